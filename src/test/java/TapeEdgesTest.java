import java.util.Arrays;

/** Promises 1 to 8 and 18 to 20 at their boundaries: just inside, and just outside. */
public final class TapeEdgesTest {
    private static final int[] FAR = {Integer.MIN_VALUE, Integer.MIN_VALUE + 1, -24000, -2, -1};

    public static void main(String[] args) {
        orderOfReadyBytes();
        readyBytesStayOrGo();
        numbersForEnd();
        aFullTape();
        cutting();
        flipping();
        taking();
        chaptersAndTheirBytes();
        whatThrowsChangesNothing();
        askingAbout();
        askingForOutput();
        checksums();
        Check.finish();
    }

    private static byte[] counted(int n) {
        byte[] b = new byte[n];
        for (int k = 0; k < n; k++) {
            b[k] = (byte) (k * 31 + k / 256);
        }
        return b;
    }

    private static void orderOfReadyBytes() {
        for (int n = 0; n <= 20; n++) {
            BookWorks x = new BookWorks();
            x.feed(0x80010203, 0x04050607, 0x08090A0B, 0x0C0D0E0F, 0x101112FF);
            Check.same("end(" + n + ")", x.end(n), n);
            byte[] due = {-128, 1, 2, 3, 4, 5, 6, 7, 8, 9, 10, 11, 12, 13, 14, 15, 16, 17, 18, -1};
            Check.tapeIs("end(" + n + ")", x, Arrays.copyOf(due, n));
        }
    }

    private static void readyBytesStayOrGo() {
        BookWorks x = new BookWorks();
        Check.same("end(20) of a new object", x.end(20), 20);
        Check.tapeIs("they are 0 at first", x, new byte[20]);
        x.cut(0);
        x.feed(-1, -1, -1, -1, -1);
        Check.same("end(-1)", x.end(-1), -1);
        Check.same("end(21)", x.end(21), -1);
        Check.tapeIs("nothing came", x, new byte[0]);
        Check.same("a refused end() leaves them ready", x.end(1), 1);
        Check.tapeIs("a refused end() leaves them ready", x, Check.bytes(255));
        Check.same("behind end() they are 0", x.end(20), 21);
        Check.tapeIs("behind end() they are 0", x, Arrays.copyOf(Check.bytes(255), 21));
        x.cut(0);
        x.feed(-1, -1, -1, -1, -1);
        Check.same("end(0)", x.end(0), 0);
        x.end(20);
        Check.tapeIs("behind end(0), too", x, new byte[20]);
        x.cut(0);
        x.feed(1, 2, 3, 4, 5);
        x.feed(6 << 24, 0, 0, 0, 7);
        x.end(20);
        Check.tapeIs("the later feed counts", x, Check.bytes(6, 0, 0, 0, 0, 0, 0, 0, 0, 0, 0, 0, 0, 0, 0, 0, 0, 0, 0, 7));
    }

    private static void numbersForEnd() {
        BookWorks x = new BookWorks();
        Check.tape(x, "abc");
        for (int n : FAR) {
            Check.same("end(" + n + ")", x.end(n), -1);
        }
        for (int n : new int[] {21, 22, 24000, Integer.MAX_VALUE - 1, Integer.MAX_VALUE}) {
            Check.same("end(" + n + ")", x.end(n), -1);
        }
        Check.tapeIs("nothing came", x, Check.utf8("abc"));
    }

    private static void aFullTape() {
        BookWorks x = new BookWorks();
        byte[] most = counted(24000);
        Check.outputOf(x, Arrays.copyOf(most, 23980));
        Check.same("take()", x.take(), 23980);
        Check.same("end(20) up to 24000", x.end(20), 24000);
        x.cut(23981);
        x.feed(-1, -1, -1, -1, -1);
        Check.same("end(20) up to 24001", x.end(20), -1);
        Check.same("nothing came", x.about(0), 23981);
        Check.same("end(19) up to 24000", x.end(19), 24000);
        byte[] due = Arrays.copyOf(most, 24000);
        due[23980] = 0;
        Arrays.fill(due, 23981, 24000, (byte) 255);
        Check.tapeIs("a full tape", x, Arrays.copyOf(due, 24000));
        Check.same("end(1) of a full tape", x.end(1), -1);
        Check.same("end(0) of a full tape", x.end(0), 24000);
        Check.isTrue("flip of the last byte", x.flip(23999, 0));
        Check.isFalse("flip behind the last byte", x.flip(24000, 0));
        Check.isTrue("cut(24000)", x.cut(24000));
        Check.isFalse("cut(24001)", x.cut(24001));
    }

    private static void cutting() {
        BookWorks x = new BookWorks();
        Check.isTrue("cut(0) of an empty tape", x.cut(0));
        Check.isFalse("cut(1) of an empty tape", x.cut(1));
        Check.tape(x, "abc");
        for (int n : FAR) {
            Check.isFalse("cut(" + n + ")", x.cut(n));
        }
        Check.isFalse("cut(4)", x.cut(4));
        Check.isFalse("cut of the greatest", x.cut(Integer.MAX_VALUE));
        Check.tapeIs("a refused cut() leaves it", x, Check.utf8("abc"));
        Check.isTrue("cut(3)", x.cut(3));
        Check.tapeIs("cut(3)", x, Check.utf8("abc"));
        Check.isTrue("cut(2)", x.cut(2));
        Check.tapeIs("cut(2)", x, Check.utf8("ab"));
        Check.isFalse("what was cut is not there any more", x.cut(3));
        Check.isTrue("cut(0)", x.cut(0));
        Check.tapeIs("cut(0)", x, new byte[0]);
    }

    private static void flipping() {
        BookWorks x = new BookWorks();
        Check.isFalse("flip(0, 0) of an empty tape", x.flip(0, 0));
        byte[] due = {0x55, 0x2A, -1};
        Check.tape(x, due);
        for (int i = 0; i < 3; i++) {
            for (int bit = 0; bit < 8; bit++) {
                Check.isTrue("flip(" + i + ", " + bit + ")", x.flip(i, bit));
                due[i] ^= 1 << bit;
                Check.tapeIs("flip(" + i + ", " + bit + ")", x, due);
            }
        }
        for (int far : FAR) {
            Check.isFalse("flip(" + far + ", 0)", x.flip(far, 0));
            Check.isFalse("flip(0, " + far + ")", x.flip(0, far));
        }
        for (int far : new int[] {8, 9, 31, 32, 33, Integer.MAX_VALUE}) {
            Check.isFalse("flip(0, " + far + ")", x.flip(0, far));
            Check.isFalse("flip(" + (far - 5) + ", 7)", x.flip(far - 5, 7));
        }
        Check.tapeIs("refused ones turn nothing", x, due);
        x.cut(2);
        Check.isFalse("a byte that was cut", x.flip(2, 0));
    }

    private static void taking() {
        BookWorks x = new BookWorks();
        Check.tape(x, "abc");
        Check.same("take() of an empty output", x.take(), 0);
        Check.tapeIs("the tape is empty then", x, new byte[0]);
        byte[] most = counted(23995);
        Check.outputOf(x, most);
        Check.tape(x, "abc");
        Check.same("take() of many", x.take(), 23995);
        Check.tapeIs("take() of many", x, most);
        x.flip(0, 0);
        Check.same("the output is not the tape", x.output(0), most[0]);
        // A block of 23995 noughts more than fills the output up to its last byte.
        Check.tape(x, "");
        x.cut(0);
        for (int k = 0; k < 1200; k++) {
            x.end(20);
        }
        x.pack();
        x.take();
        Check.same("unpack() of 24000", x.unpack(), 24000);
        Check.same("take() of 24000", x.take(), 24000);
        Check.tapeIs("take() of 24000", x, new byte[24000]);
    }

    private static String chapter(BookWorks x) {
        try {
            return "" + x.chapter();
        } catch (IllegalStateException e) {
            return "no room";
        }
    }

    private static void chaptersAndTheirBytes() {
        BookWorks x = new BookWorks();
        for (int k = 0; k < 11; k++) {
            Check.same("chapter " + k, chapter(x), "" + k);
            Check.same("about(1)", x.about(1), k + 1);
        }
        byte[] b = new byte[3001];
        Arrays.fill(b, (byte) 'a');
        Check.tape(x, b);
        Check.same("3001 bytes as the 12th", chapter(x), "no room");
        Check.tapeIs("3001 bytes as the 12th", x, b);
        Check.same("about(1)", x.about(1), 11);
        x.cut(3000);
        Check.same("3000 bytes as the 12th", chapter(x), "11");
        Check.same("the tape is empty", x.about(0), 0);
        Check.same("an empty one as the 13th", chapter(x), "no room");
        Check.same("about(1)", x.about(1), 12);
        Check.same("compile", Check.compiled(x), "fine");
        Check.same("all 3000 bytes are there", x.node(11, 2, 4), 3000);
        Check.same("nodes of the empty ones", x.nodes(10), 1);
        x.drop();
        Check.same("drop()", x.about(1), 0);
        x.drop();
        Check.same("drop() of none", x.about(1), 0);
        Check.tape(x, "b");
        Check.same("a chapter behind drop()", chapter(x), "0");
        Check.same("compile", Check.compiled(x), "fine");
        Check.same("its letter", x.letter(0, 2, false, 0), 'b');
        Check.same("it has one letter", x.node(0, 2, 4), 1);
    }

    private static void whatThrowsChangesNothing() {
        BookWorks x = Check.book("# a **b**");
        int size = x.about(2);
        byte[] long1 = new byte[3001];
        Check.tape(x, long1);
        Check.same("a chapter that is too long", chapter(x), "no room");
        Check.same("what is known stays", x.nodes(0), 5);
        Check.same("headings stay", x.about(3), 1);
        for (int k = 1; k < 12; k++) {
            x.cut(0);
            x.chapter();
        }
        Check.same("compile of 12", Check.compiled(x), "fine");
        Check.isTrue("the output is longer", x.about(2) > size);
        Check.tape(x, "c");
        Check.same("a 13th chapter", chapter(x), "no room");
        Check.tapeIs("its tape stays", x, Check.utf8("c"));
        Check.same("what is known stays, too", x.nodes(0), 5);
        Check.same("terms stay", x.about(5), 1);
    }

    private static void askingAbout() {
        BookWorks x = new BookWorks();
        for (int far : FAR) {
            Check.same("about(" + far + ")", x.about(far), -1);
        }
        for (int far : new int[] {10, 11, 255, Integer.MAX_VALUE}) {
            Check.same("about(" + far + ")", x.about(far), -1);
        }
        for (int what = 0; what <= 9; what++) {
            Check.same("about(" + what + ")", x.about(what), 0);
        }
        x = Check.book("# a\n\n**b** **c** **b**\n\n## d", "e");
        Check.tape(x, "xyz");
        int[] due = {3, 2, x.about(2), 2, 3, 2, 0, 0, 0, 0};
        for (int what = 0; what <= 9; what++) {
            Check.same("about(" + what + ") of a book", x.about(what), due[what]);
        }
        x.take();
        x.read();
        Check.same("files of the spine", x.about(6), 4);
        Check.same("before pages()", x.about(7) + x.about(8) + x.about(9), 0);
        Check.same("pages", x.pages(5, 80), x.about(7));
        Check.same("rows", x.about(8), 5);
        Check.same("columns", x.about(9), 80);
        x.drop();
        Check.same("headings behind drop()", x.about(3), 0);
        Check.same("strongs behind drop()", x.about(4), 0);
        Check.same("terms behind drop()", x.about(5), 0);
        Check.same("the book that was read stays", x.about(6), 4);
        Check.same("and its rows", x.about(8), 5);
    }

    private static void askingForOutput() {
        BookWorks x = new BookWorks();
        Check.same("output(0) of none", x.output(0), -1);
        Check.outputOf(x, Check.bytes(255, 0, 128));
        Check.same("output(0)", x.output(0), 255);
        Check.same("output(1)", x.output(1), 0);
        Check.same("output(2)", x.output(2), 128);
        Check.same("output(3)", x.output(3), -1);
        Check.same("output of the greatest", x.output(Integer.MAX_VALUE), -1);
        for (int far : FAR) {
            Check.same("output(" + far + ")", x.output(far), -1);
        }
        Check.tape(x, "");
        x.pack();
        Check.same("a shorter output's end", x.output(2), -1);
    }

    private static void checksums() {
        for (int c = 0; c < 256; c++) {
            BookWorks x = new BookWorks();
            byte[] b = {(byte) c};
            Check.tape(x, b);
            Check.tapeIs("a byte " + c, x, b);
        }
        BookWorks x = new BookWorks();
        Check.tape(x, counted(400));
        Check.tapeIs("400 bytes", x, counted(400));
    }
}
