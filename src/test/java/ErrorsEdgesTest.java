import java.io.IOException;
import java.util.Map;
import java.util.Random;

/** ERRORS at their boundaries: the greatest that is fine and the least that is not, their places and their order. */
public final class ErrorsEdgesTest {
    private static final String HEAD = "<?xml version=\"1.0\" encoding=\"UTF-8\"?>\n<html><head><title>Untitled</title></head><body>\n";
    private static final String TAIL = "</body></html>\n";

    public static void main(String[] args) throws IOException {
        deepInlines();
        manyNodes();
        manyHeadingsAndStrongs();
        namesThatAreNone();
        longFiles();
        filesLongTogether();
        longArchives();
        orderInAChapter();
        orderInABook();
        whatErrorTells();
        Check.finish();
    }

    private static void is(String what, String due, String... chapters) {
        Check.same(what, Check.error(chapters), due);
    }

    private static String nested(int n, String inside) {
        return "![".repeat(n) + inside + "](b)".repeat(n);
    }

    private static void deepInlines() {
        is("a text 20 deep", "fine", nested(19, "a"));
        is("a text 21 deep", "5 0 0", nested(20, "a"));
        is("an image 20 deep", "fine", nested(20, ""));
        is("an image 21 deep", "5 0 0", nested(21, ""));
        is("a coding 21 deep", "5 0 0", nested(20, "`a`"));
        is("a line's end 21 deep", "5 0 0", nested(20, "\n"));
        is("an emphasis 20 deep", "5 0 0", nested(19, "*a*"));
        is("an emphasis 19 deep", "fine", nested(18, "*a*"));
        is("a link 20 deep with a text 21 deep", "5 0 0", nested(19, "[a](c)"));
        is("a link 20 deep", "fine", nested(19, "[](c)"));
        is("in the leaf that has it", "5 0 2", "a\n\n***\n\n# b\n\n" + nested(20, "a"));
        is("in a quote it is no deeper", "fine", ">>>>>>>>>>>> " + nested(19, "a"));
        is("behind 2 of its leaf", "2 0 0", nested(20, "a") + "&#1;");
        is("behind 3 of its leaf", "3 0 0", nested(20, "a") + "<b>");
        is("ahead of 3 of a later leaf", "5 0 0", nested(20, "a") + "\n\n<b>");
        is("behind 3 of an earlier leaf", "3 0 0", "<b>\n\n" + nested(20, "a"));
        BookWorks x = Check.book(nested(19, "a"));
        Check.same("nodes", x.nodes(0), 22);
        Check.same("what holds the last", x.node(0, 21, 1), 20);
    }

    private static void manyNodes() {
        // A paragraph of n lines has n texts and n - 1 ends of lines.
        is("1500", "fine", "a\n".repeat(750));
        is("1501 by a rule", "5 0 -1", "a\n".repeat(750) + "***");
        is("1501 by a coding", "5 0 -1", "a\n".repeat(749) + "b`c`");
        is("1499", "fine", "a\n".repeat(749) + "***");
        is("1500 with headings", "fine", "a", "#\n".repeat(100) + "a\n".repeat(700));
        is("1502 with headings", "5 1 -1", "a", "#\n".repeat(100) + "a\n".repeat(701));
        is("800 quotes", "fine", ">\n\n".repeat(800));
        is("3000 items", "5 0 -1", "-\n+\n".repeat(750));
        is("750 lists and items", "fine", "-\n+\n".repeat(375));
        is("751 lists and items", "5 0 -1", "-\n+\n".repeat(375) + "-");
        BookWorks x = Check.book("a\n".repeat(750));
        Check.same("nodes with the document", x.nodes(0), 1501);
        Check.same("the last node", x.node(0, 1500, 0), 8);
        Check.same("none behind it", x.node(0, 1501, 0), -1);
        Check.same("its letter", x.letter(0, 1500, false, 0), 'a');
        String[] all = new String[12];
        java.util.Arrays.fill(all, "a\n".repeat(750));
        x = Check.withChapters(all);
        Check.same("twelve of 1500", Check.compiled(x), "fine");
        Check.same("the last one's last", x.letter(11, 1500, false, 0), 'a');
        Check.same("the last one's nodes", x.nodes(11), 1501);
        all[11] = "a\n".repeat(750) + "#";
        is("1501 in the twelfth", "5 11 -1", all);
    }

    private static void manyHeadingsAndStrongs() {
        String heads = "#\n".repeat(399);
        is("400 headings", "fine", heads + "a\n===");
        is("401 headings", "5 0 -1", heads + "a\n===\n#");
        is("401 headings, in the chapter with the last", "5 2 -1", heads, "#", "#", "#");
        String strongs = "**a** ".repeat(399);
        is("400 strongs", "fine", strongs + "**b**");
        is("401 strongs", "5 0 -1", strongs + "**b** **c**");
        is("401 strongs, in the chapter with the last", "5 2 -1", strongs, "**b**", "__c__");
        is("strongs in images don't count", "fine", strongs + "![**b**](c) **d**", "![**e** *f **g** h*](i)");
        is("400 of both", "fine", heads + "# a", strongs + "**b**");
        is("the heading comes first", "5 1 -1", heads + "#", "# **a**");
        is("a strong comes first", "5 1 -1", heads, strongs + "**a** **b**", "#\n#");
        BookWorks x = Check.withChapters(heads + "#", strongs + "**b**");
        Check.same("400 of both", Check.compiled(x), "fine");
        Check.same("about(3)", x.about(3), 400);
        Check.same("about(4)", x.about(4), 400);
        Check.same("heading(399, 3)", x.heading(399, 3), 400);
        Check.same("heading(400, 3)", x.heading(400, 3), -1);
        Check.same("the 400th name", Check.nameOf(x, 399), "section-399");
        Check.same("terms", x.about(5), 2);
        Check.same("strongs with a", x.term(0, 1), 399);
        Check.same("the last of them", x.term(0, 400), 398);
        Check.same("none behind", x.term(0, 401), -1);
        Check.same("the one with b", x.term(1, 2), 399);
    }

    private static void namesThatAreNone() {
        is("of its own chapter", "fine", "# a\n\n[b](#a)");
        is("another name", "4 0 1", "# a\n\n[b](#b)");
        is("a longer one", "4 0 1", "# a\n\n[b](#aa)");
        is("a shorter one", "4 0 1", "# aa\n\n[b](#a)");
        is("SMALL is not meant", "4 0 1", "# A\n\n[b](#A)");
        is("an empty one", "4 0 1", "# a\n\n[b](#)");
        is("the first # counts", "4 0 1", "# a\n\n[b](#a#)");
        is("c1", "fine", "# a\n\n[b](c1.xhtml#a)");
        is("c1, another name", "4 0 1", "# a\n\n[b](c1.xhtml#b)");
        is("c2 that is there", "4 0 1", "# a\n\n[b](c2.xhtml#a)", "c");
        is("c2 that is not there", "fine", "# a\n\n[b](c2.xhtml#a)");
        is("c0", "fine", "[b](c0.xhtml#a)");
        is("c01", "fine", "[b](c01.xhtml#a)");
        is("c", "fine", "[b](c.xhtml#a)");
        is("C1", "fine", "[b](C1.xhtml#a)");
        is("c1.xhtm", "fine", "[b](c1.xhtm#a)");
        is("c1.xhtmll", "fine", "[b](c1.xhtmll#a)");
        is("a folder ahead", "fine", "[b](./c1.xhtml#a)");
        is("c1 without #", "fine", "[b](c1.xhtml)");
        is("nav", "4 0 1", "# a\n\n[b](nav.xhtml#a)");
        is("index", "4 0 1", "# a\n\n[b](index.xhtml#a)");
        is("nav without #", "fine", "[b](nav.xhtml)");
        is("navx", "fine", "[b](navx.xhtml#a)");
        is("inde", "fine", "[b](inde.xhtml#a)");
        is("content.opf", "fine", "[b](content.opf#a)");
        is("an image", "fine", "![b](#a)");
        is("a link in an image", "fine", "![[b](#a)](c)");
        is("a link with an image", "4 0 0", "[![b](#x)](#a)");
        is("a link to its own text", "fine", "<ab:#a>");
        is("the first leaf", "4 0 0", "[b](#a)\n\n[b](#a)");
        is("the second one", "4 0 1", "# a [b](#a-b)\n\n[d](#a)", "[e](#f)");
        is("rules and code are no such leaves", "4 0 1", "***\n\n    a\n\nb\n\n- [c](#d)");
        is("in a heading", "4 0 0", "# [a](#b)");
        String[] twelve = new String[12];
        java.util.Arrays.fill(twelve, "a");
        twelve[11] = "# z";
        twelve[0] = "[b](c12.xhtml#z) [b](#z) [b](c13.xhtml#z)";
        is("c12", "fine", twelve);
        twelve[0] = "[b](c11.xhtml#z)";
        is("c11", "4 0 0", twelve);
        twelve[0] = "a";
        twelve[11] = "a\n\n[b](c12.xhtml#y)";
        is("in the twelfth", "4 11 1", twelve);
    }

    /** A chapter with a definition and links that makes a file far longer than itself. */
    private static String links(int times, int pad) {
        return "[a]: " + "x".repeat(300) + "\n\n" + "[a] ".repeat(times) + "y".repeat(pad);
    }

    private static String linksWritten(int times, int pad) {
        return "<p>" + ("<a href=\"" + "x".repeat(300) + "\">a</a> ").repeat(times) + "y".repeat(pad) + "</p>\n";
    }

    private static void longFiles() throws IOException {
        int size = (HEAD + linksWritten(70, 0) + TAIL).length();
        int pad = 24000 - size;
        Check.isTrue("there is room for the links", pad > 0 && links(70, pad).length() < 3000);
        BookWorks x = Check.withChapters("b", links(70, pad));
        Check.same("24000 bytes", Check.compiled(x), "fine");
        Map<String, String> files = Check.files(Check.output(x));
        Check.same("its bytes", files.get("OEBPS/c2.xhtml"), HEAD + linksWritten(70, pad) + TAIL);
        Check.same("so many", files.get("OEBPS/c2.xhtml").length(), 24000);
        is("24001 bytes", "6 -1 5", "b", links(70, pad + 1));
        is("the first one", "6 -1 4", links(70, pad + 1), links(70, pad + 1));
        // The & takes five bytes where it is told.
        is("told otherwise", "6 -1 4", links(70, pad - 4) + "&");
        is("told otherwise, but in time", "fine", links(70, pad - 5) + "&");
        is("two bytes of UTF-8", "6 -1 4", links(70, pad - 1) + "é");
        is("two bytes of UTF-8, in time", "fine", links(70, pad - 2) + "é");
        String heading = "# " + "0".repeat(60) + "\n";
        is("nav.xhtml", "6 -1 3", heading.repeat(40), heading.repeat(40), heading.repeat(40), heading.repeat(40));
        String title = "# " + "\"".repeat(2990);
        is("a title that is short enough", "fine", "# " + "\"".repeat(1300));
        is("a long title", "6 -1 3", title);
    }

    private static int sizeOf(String... chapters) throws IOException {
        int size = 0;
        for (String file : Check.files(Check.output(Check.book(chapters))).values()) {
            size += Check.utf8(file).length;
        }
        return size;
    }

    private static void filesLongTogether() throws IOException {
        String a = links(61, 1);
        int pad = 60000 - sizeOf(a, a, a) + 1;
        Check.isTrue("there is room", pad > 0 && links(61, pad).length() < 3000);
        String b = links(61, pad);
        Check.same("60000", sizeOf(a, a, b), 60000);
        is("60000", "fine", a, a, b);
        is("60001", "6 -1 7", a, a, links(61, pad + 1));
        is("60001 by the first one", "6 -1 7", links(61, pad + 1), a, a);
        is("by the last chapter", "6 -1 6", a, a, links(68, 900));
    }

    /** How long the archive must be: by the model of packing, and the headers' sizes. */
    private static int archiveSize(String name, String file) {
        byte[] b = Check.utf8(file);
        int packed = name.equals("mimetype") ? b.length : Math.min(b.length, Packs.model(b).length);
        return 30 + 46 + 2 * name.length() + packed;
    }

    private static String odd(int n, long seed) {
        Random r = new Random(seed);
        StringBuilder b = new StringBuilder("    ");
        for (int k = 0; k < n; k++) {
            b.append((char) ('(' + r.nextInt(20)));
            b.append((char) ('?' + r.nextInt(62)));
        }
        return b.toString();
    }

    private static void longArchives() throws IOException {
        String[] chapters = new String[12];
        for (int k = 0; k < 11; k++) {
            chapters[k] = k < 8 ? odd(1480, k) : "a";
        }
        chapters[11] = "";
        BookWorks x = Check.book(chapters);
        int rest = 22;
        for (Map.Entry<String, String> e : Check.files(Check.output(x)).entrySet()) {
            rest += e.getKey().equals("OEBPS/c12.xhtml") ? 0 : archiveSize(e.getKey(), e.getValue());
        }
        boolean most = false;
        boolean more = false;
        for (int seed = 100; seed < 140 && !(most && more); seed++) {
            int low = 0;
            int high = 1480;
            while (high - low > 1) {
                int n = (low + high) / 2;
                boolean fits = rest + archiveSize("OEBPS/c12.xhtml", written(odd(n, seed))) <= 24000;
                low = fits ? n : low;
                high = fits ? high : n;
            }
            for (int n = low; n <= high; n++) {
                int due = rest + archiveSize("OEBPS/c12.xhtml", written(odd(n, seed)));
                if (due != 24000 && due != 24001) {
                    continue;
                }
                chapters[11] = odd(n, seed);
                x = Check.withChapters(chapters);
                Check.same("an archive of " + due, Check.compiled(x), due == 24000 ? "fine" : "6 -1 17");
                Check.same("its output", x.about(2), due == 24000 ? 24000 : 0);
                most = most || due == 24000;
                more = more || due == 24001;
            }
        }
        Check.isTrue("one of 24000 was tried", most);
        Check.isTrue("one of 24001 was tried", more);
    }

    private static String written(String chapter) {
        String code = chapter.substring(4) + "\n";
        return HEAD + "<pre><code>" + code.replace("&", "&amp;") + "</code></pre>\n" + TAIL;
    }

    private static void orderInAChapter() {
        String deep = ">>>>>>>>>>>>>";
        String many = "a\n".repeat(751);
        is("bytes ahead of blocks", "2 0 15", deep + "\n\n\u0001");
        is("blocks ahead of leaves", "5 0 2", "<b>\n\n" + deep);
        is("leaves ahead of the number", "3 0 1", many + "\n<b>");
        is("2 of a leaf ahead of the number", "2 0 1", many + "\n&#1;");
        is("5 of a leaf ahead of the number", "5 0 1", many + "\n" + nested(20, "a"));
        is("the number", "5 0 -1", many + "\n[a](#b)");
        is("leaf by leaf", "2 0 0", "&#1;\n\n<b>");
        is("the one further to the left", "3 0 0", "a <b> &#1;");
        is("the one further to the left, too", "2 0 0", "a &#1; <b>");
        is("bytes of a target are no ERROR 2", "3 0 1", "[a](&#1;)\n\n<b>");
    }

    private static void orderInABook() {
        String deep = ">>>>>>>>>>>>>";
        String many = "a\n".repeat(751);
        is("number of a chapter ahead of bytes of the next", "5 0 -1", many, "\u0001");
        is("leaves of a chapter ahead of blocks of the next", "3 0 0", "<b>", deep);
        is("headings behind all chapters", "3 2 0", "#\n".repeat(401), "a", "<b>");
        is("names behind headings", "5 1 -1", "[a](#b)", "#\n".repeat(401));
        is("names behind strongs", "5 1 -1", "[a](#b)", "**a** ".repeat(401));
        is("names ahead of files", "4 1 0", links(75, 1000), "[a](#b)");
        is("files ahead of the archive", "6 -1 4", links(75, 1000));
    }

    private static void whatErrorTells() {
        BookWorks x = Check.withChapters("a", "b\n\n<c>");
        for (int what = -1; what <= 3; what++) {
            Check.same("error(" + what + ") ahead of any", x.error(what), what == 0 ? 0 : -1);
        }
        Check.same("compile", Check.compiled(x), "3 1 1");
        Check.same("error(0)", x.error(0), 3);
        Check.same("error(1)", x.error(1), 1);
        Check.same("error(2)", x.error(2), 1);
        Check.same("error(3)", x.error(3), -1);
        Check.same("error(-1)", x.error(-1), -1);
        Check.same("error of the greatest", x.error(Integer.MAX_VALUE), -1);
        Check.same("error of the least", x.error(Integer.MIN_VALUE), -1);
        x.drop();
        x.chapter();
        Check.same("chapter() and drop() leave it", x.error(0) * 100 + x.error(1) * 10 + x.error(2), 311);
        Check.same("compile", Check.compiled(x), "fine");
        for (int what = 0; what <= 2; what++) {
            Check.same("error(" + what + ") without one", x.error(what), what == 0 ? 0 : -1);
        }
    }
}
