import java.io.ByteArrayOutputStream;
import java.util.ArrayList;
import java.util.Arrays;
import java.util.List;
import java.util.Map;
import java.util.Random;

/**
 * What a call changes and what it leaves as it was. Calls are made at random, those that throw too; behind each of
 * them all that can be asked must be as a plain account says: it keeps what the document says that a call changes,
 * and works on it with objects that are new, so that nothing else can count.
 */
public final class LeavesTest {
    private static final int NONE = -1;
    private static final String[] CHAPTERS = {"# One\n\na **b** c\n", "## Two\n\n- [d](#one)\n- **B**\n", "", "e\n===\n\n> f  \n> g\n",
        "```x y\nh\n```\n", "1. i\n\n2. ![j **k**](l 'm')\n", "# One\n\n[n]\n\n[n]: #two\n", "o\u0001", "p <b>", "q [r](#nowhere)",
        ">>>>>>>>>>>>>s", "t &#1;", "# One *u*\n\n**b** **v**\n"};
    private static final String[] BODIES = {"<p id=\"a\">one two three</p><h1 id=\"b\">four</h1><p>five</p>", "<ul><li id=\"\">x</li></ul>",
        "", "<ol start=\"9\"><li><p>y</p></li><li id=\"c\">z</li></ol>", "<hr/><pre><code id=\"a\">w\n\nv</code></pre>"};
    private static final String[] IDS = {"a", "b", "c", "", "d"};

    private final BookWorks x = new BookWorks();
    private final Random random;
    private final String run;
    // The account.
    private byte[] ready = new byte[20];
    private byte[] tape = {};
    private byte[] output = {};
    private final List<byte[]> chapters = new ArrayList<>();
    private String known = "";
    private int[] error = {0, NONE, NONE};
    private int[] fault = {0, NONE, NONE};
    private byte[] book;
    private int files;
    private int rows;
    private int columns;
    private String pages = "";

    private LeavesTest(int seed) {
        random = new Random(seed);
        run = "run " + seed + ", ";
    }

    public static void main(String[] args) {
        int from = args.length > 0 ? Integer.parseInt(args[0]) : 0;
        int runs = args.length > 1 ? Integer.parseInt(args[1]) : 120;
        for (int seed = from; seed < from + runs; seed++) {
            new LeavesTest(seed).go();
        }
        Check.finish();
    }

    private void go() {
        look("new");
        for (int k = 0; k < 30; k++) {
            int which = random.nextInt(24);
            look(k + ". " + call(which));
            if (which == 4 && random.nextBoolean()) {
                readAndLayOut(k + ". ");
            } else if (which == 6) {
                look(k + ". " + end(random.nextInt(21)) + " behind feed");
                look(k + ". " + end(random.nextInt(21)) + " behind end");
            }
        }
    }

    /** Pages of a book, those that may have too many lines, and other work on its tape between. */
    private void readAndLayOut(String what) {
        look(what + read());
        look(what + pages(5 + random.nextInt(56), 60 + random.nextInt(21)));
        look(what + pages(5 + random.nextInt(56), 16 + random.nextInt(4)));
        look(what + xml());
        look(what + tapeOf(Check.utf8("<p>" + "<q/>".repeat(random.nextInt(40)) + "</p>")));
        look(what + xml());
        look(what + tapeOf(Check.utf8(IDS[random.nextInt(IDS.length)])));
        look(what + pages(3 + random.nextInt(60), 14 + random.nextInt(70)));
    }

    private static BookWorks with(byte[] tape) {
        BookWorks y = new BookWorks();
        Check.feed(y, tape);
        return y;
    }

    private String call(int which) {
        switch (which) {
            case 0:
            case 1:
            case 2:
            case 3:
                return tapeOf(Check.utf8(CHAPTERS[random.nextInt(CHAPTERS.length)]));
            case 4:
                return tapeOf(archive());
            case 5:
                return tapeOf(bytes());
            case 6:
                return feed();
            case 7:
                return end(random.nextInt(24) - 2);
            case 8:
                return cut(random.nextInt(3) == 0 ? tape.length + 1 : random.nextInt(tape.length + 1));
            case 9:
                return flip(random.nextInt(tape.length + 2) - 1, random.nextInt(10) - 1);
            case 10:
            case 11:
                tape = output.clone();
                Check.same(run + "take()", x.take(), output.length);
                return "take()";
            case 12:
            case 13:
            case 14:
                return chapter();
            case 15:
                return random.nextInt(3) == 0 ? drop() : compile();
            case 16:
            case 17:
                return compile();
            case 18:
                return pack();
            case 19:
                return unpack();
            case 20:
                return xml();
            case 21:
            case 22:
                return read();
            default:
                return pages(random.nextInt(60) + 2, random.nextInt(80) + 12);
        }
    }

    private byte[] archive() {
        String[] documents = new String[1 + random.nextInt(3)];
        for (int k = 0; k < documents.length; k++) {
            documents[k] = Check.html(BODIES[random.nextInt(BODIES.length)]);
        }
        if (random.nextInt(6) == 0) {
            documents[0] = Check.html("<pre><code>" + "x".repeat(23000) + "</code></pre>");
            documents = new String[] {documents[0], documents[0], Check.html("<p id=\"a\">" + "ab ".repeat(4000) + "</p>")};
        }
        Map<String, byte[]> all = Check.bookFiles(documents);
        byte[] b = Check.packedArchive(all);
        if (random.nextInt(4) == 0) {
            b[random.nextInt(b.length)] ^= 1 << random.nextInt(8);
        }
        return b;
    }

    private byte[] bytes() {
        byte[] b = new byte[random.nextInt(3) == 0 ? 24000 : random.nextInt(3500)];
        if (random.nextBoolean()) {
            random.nextBytes(b);
        }
        return random.nextInt(3) > 0 ? b : Packs.model(Arrays.copyOf(b, Math.min(b.length, 300)));
    }

    /** The tape becomes these bytes, by cut, feed and end. */
    private String tapeOf(byte[] b) {
        Check.tape(x, b);
        tape = b;
        if (b.length > 0) {
            ready = new byte[20];
        }
        return "tape";
    }

    private String feed() {
        int[] words = new int[5];
        for (int k = 0; k < 20; k++) {
            ready[k] = (byte) random.nextInt(256);
            words[k / 4] |= (ready[k] & 255) << 24 - 8 * (k % 4);
        }
        x.feed(words[0], words[1], words[2], words[3], words[4]);
        return "feed";
    }

    private String end(int n) {
        boolean fine = n >= 0 && n <= 20 && tape.length + n <= 24000;
        if (fine) {
            ByteArrayOutputStream o = new ByteArrayOutputStream();
            o.writeBytes(tape);
            o.write(ready, 0, n);
            tape = o.toByteArray();
            ready = new byte[20];
        }
        Check.same(run + "end(" + n + ")", x.end(n), fine ? tape.length : NONE);
        return "end(" + n + ")";
    }

    private String cut(int n) {
        boolean fine = n <= tape.length;
        if (fine) {
            tape = Arrays.copyOf(tape, n);
        }
        Check.same(run + "cut(" + n + ")", x.cut(n) ? 1 : 0, fine ? 1 : 0);
        return "cut(" + n + ")";
    }

    private String flip(int i, int bit) {
        boolean fine = i >= 0 && i < tape.length && bit >= 0 && bit < 8;
        if (fine) {
            tape = tape.clone();
            tape[i] ^= 1 << bit;
        }
        Check.same(run + "flip", x.flip(i, bit) ? 1 : 0, fine ? 1 : 0);
        return "flip(" + i + ", " + bit + ")";
    }

    private String chapter() {
        int due = chapters.size() < 12 && tape.length <= 3000 ? chapters.size() : NONE;
        int got = NONE;
        try {
            got = x.chapter();
        } catch (IllegalStateException e) {
            Check.same(run + "chapter() throws", NONE, due);
        }
        Check.same(run + "chapter()", got, due);
        if (due != NONE) {
            chapters.add(tape);
            tape = new byte[0];
            known = "";
        }
        return "chapter()";
    }

    private String drop() {
        x.drop();
        chapters.clear();
        known = "";
        return "drop()";
    }

    private String compile() {
        BookWorks y = new BookWorks();
        for (byte[] text : chapters) {
            Check.tape(y, text);
            y.chapter();
        }
        String due = Check.compiled(y);
        Check.same(run + "compile()", Check.compiled(x), due);
        if (!due.equals("no chapters")) {
            error = new int[] {y.error(0), y.error(1), y.error(2)};
            known = y.error(0) == 0 ? treesOf(y) : "";
            output = y.error(0) == 0 ? Check.output(y) : output;
        }
        return "compile()";
    }

    private static String treesOf(BookWorks y) {
        StringBuilder b = new StringBuilder();
        b.append(y.about(3) + " " + y.about(4) + " " + y.about(5));
        for (int c = -1; c <= 12; c++) {
            b.append("\n" + y.nodes(c) + " " + y.node(c, 0, 1) + " " + Check.tree(y, c));
        }
        for (int h = -1; h <= y.about(3); h++) {
            b.append("\n" + y.heading(h, 0) + " " + y.heading(h, 1) + " " + y.heading(h, 2) + " " + y.heading(h, 3) + " "
                + Check.nameOf(y, h));
        }
        for (int k = -1; k <= y.about(5); k++) {
            b.append("\n" + Check.termOf(y, k) + " " + y.term(k, 1));
            for (int n = 2; n < y.term(k, 1) + 3; n++) {
                b.append(" " + y.term(k, n));
            }
        }
        return b.toString();
    }

    private static final String NO_TREES = treesOf(new BookWorks());

    private String pack() {
        BookWorks y = with(tape);
        int due;
        try {
            due = y.pack();
            output = Check.output(y);
        } catch (IllegalStateException e) {
            due = NONE;
        }
        int got;
        try {
            got = x.pack();
        } catch (IllegalStateException e) {
            got = NONE;
        }
        Check.same(run + "pack()", got, due);
        return "pack()";
    }

    private static int unpacked(BookWorks y) {
        try {
            return y.unpack();
        } catch (IllegalArgumentException e) {
            return NONE;
        }
    }

    private static int[] faultOf(BookWorks y) {
        return new int[] {y.fault(0), y.fault(1), y.fault(2)};
    }

    private String unpack() {
        BookWorks y = with(tape);
        int due = unpacked(y);
        Check.same(run + "unpack()", unpacked(x), due);
        fault = faultOf(y);
        output = due == NONE ? output : Check.output(y);
        return "unpack()";
    }

    private static int elements(BookWorks y) {
        try {
            return y.xml();
        } catch (IllegalArgumentException e) {
            return NONE;
        }
    }

    private String xml() {
        BookWorks y = with(tape);
        Check.same(run + "xml()", elements(x), elements(y));
        fault = faultOf(y);
        return "xml()";
    }

    private String read() {
        BookWorks y = with(tape);
        String due = Check.read(y);
        Check.same(run + "read()", Check.read(x), due);
        fault = faultOf(y);
        if (y.fault(0) == 0) {
            book = tape;
            files = y.about(6);
            rows = 0;
            columns = 0;
            pages = "";
        }
        return "read()";
    }

    /** How many pages, or which exception. */
    private static int laid(BookWorks y, int high, int wide) {
        try {
            return y.pages(high, wide);
        } catch (IllegalStateException e) {
            return -2;
        } catch (IllegalArgumentException e) {
            return -3;
        }
    }

    private String pages(int high, int wide) {
        BookWorks y = book == null ? new BookWorks() : bookOf();
        int due = laid(y, high, wide);
        Check.same(run + "pages", laid(x, high, wide), due);
        if (due >= 0) {
            rows = high;
            columns = wide;
            pages = Check.pages(y);
        }
        return "pages(" + high + ", " + wide + ")";
    }

    private BookWorks bookOf() {
        BookWorks y = with(book);
        Check.read(y);
        return y;
    }

    private void look(String behind) {
        String what = run + behind + ": ";
        Check.tapeIs(what, x, tape);
        Check.same(what + "chapters", x.about(1), chapters.size());
        Check.isTrue(what + "the output", Arrays.equals(Check.output(x), output));
        Check.same(what + "none behind the output", x.output(output.length), NONE);
        for (int k = 0; k < 3; k++) {
            Check.same(what + "error(" + k + ")", x.error(k), error[k]);
            Check.same(what + "fault(" + k + ")", x.fault(k), fault[k]);
        }
        Check.same(what + "trees", treesOf(x), known.isEmpty() ? NO_TREES : known);
        Check.same(what + "files of the spine", x.about(6), files);
        Check.same(what + "rows", x.about(8), rows);
        Check.same(what + "columns", x.about(9), columns);
        Check.same(what + "pages", Check.pages(x), pages);
        lookForIds(what);
    }

    /** The tape may be an id by chance; now and then it becomes one. */
    private void lookForIds(String what) {
        if (random.nextInt(8) == 0) {
            tapeOf(Check.utf8(IDS[random.nextInt(IDS.length)]));
        }
        BookWorks y = rows == 0 ? null : bookOf();
        if (y != null) {
            y.pages(rows, columns);
            Check.tape(y, tape);
        }
        for (int f = -1; f <= files; f++) {
            Check.same(what + "find(" + f + ")", x.find(f), y == null ? NONE : y.find(f));
        }
    }
}
