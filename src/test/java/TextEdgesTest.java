/** TEXT OF A CHAPTER at its boundaries: characters in UTF-8, forbidden ones, lines, tabs. */
public final class TextEdgesTest {
    public static void main(String[] args) {
        firstBytes();
        shortestForms();
        rowsThatGoOnWrongly();
        forbiddenCharacters();
        theOneFurtherToTheLeft();
        endsOfLines();
        aLineBehindTheLastEnd();
        tabs();
        Check.finish();
    }

    private static String compiled(byte[] b) {
        BookWorks x = new BookWorks();
        Check.tape(x, b);
        x.chapter();
        return Check.compiled(x);
    }

    private static String of(int... values) {
        return compiled(Check.bytes(values));
    }

    private static String bytesOf(int... values) {
        return java.util.Arrays.toString(values);
    }

    /** These bytes behind ab: none, with the place of their first one. */
    private static void none(int... row) {
        int[] all = new int[row.length + 2];
        all[0] = 'a';
        all[1] = 'b';
        System.arraycopy(row, 0, all, 2, row.length);
        Check.same("ab and " + bytesOf(row), of(all), "1 0 2");
        Check.same("only " + bytesOf(row), of(row), "1 0 0");
    }

    /** These bytes are one character. */
    private static void one(int character, int... row) {
        BookWorks x = new BookWorks();
        Check.tape(x, Check.bytes(row));
        x.chapter();
        Check.same("compile of " + bytesOf(row), Check.compiled(x), "fine");
        Check.same("characters of " + bytesOf(row), x.node(0, 2, 4), 1);
        Check.same("character of " + bytesOf(row), x.letter(0, 2, false, 0), character);
    }

    private static void firstBytes() {
        for (int c = 128; c < 256; c++) {
            none(c);
            none(c, 'x', 'y', 'z');
        }
        none(193, 191);
        none(192, 128);
        none(245, 128, 128, 128);
        none(248, 136, 128, 128, 128);
        none(255, 191, 191, 191);
    }

    private static void shortestForms() {
        one(127, 127);
        one(128, 194, 128);
        one(2047, 223, 191);
        none(224, 159, 191);
        one(2048, 224, 160, 128);
        one(55295, 237, 159, 191);
        none(237, 160, 128);
        none(237, 191, 191);
        one(57344, 238, 128, 128);
        one(65533, 239, 191, 189);
        none(240, 143, 191, 191);
        one(65536, 240, 144, 128, 128);
        one(262143, 240, 191, 191, 191);
        one(262144, 241, 128, 128, 128);
        one(1114111, 244, 143, 191, 191);
        none(244, 144, 128, 128);
        one(8364, 226, 130, 172);
        one(128512, 240, 159, 152, 128);
    }

    private static void rowsThatGoOnWrongly() {
        int[][] rows = {{195, 169}, {226, 130, 172}, {240, 159, 152, 128}};
        for (int[] row : rows) {
            for (int n = 1; n < row.length; n++) {
                none(java.util.Arrays.copyOf(row, n));
                int[] other = row.clone();
                other[n] = 127;
                none(other);
                other[n] = 192;
                none(other);
                other[n] = 'a';
                none(other);
                other[n] = 10;
                none(other);
            }
        }
        one(192, 195, 128);
        one(255, 195, 191);
        Check.same("a byte more", of(195, 169, 169), "1 0 2");
    }

    private static void forbiddenCharacters() {
        for (int c = 0; c < 34; c++) {
            boolean fine = c == 9 || c == 10 || c == 13 || c > 31;
            Check.same("character " + c, of('a', c, 'b'), fine ? "fine" : "2 0 1");
        }
        Check.same("65534", of('a', 'b', 239, 191, 190), "2 0 2");
        Check.same("65535", of('a', 'b', 239, 191, 191), "2 0 2");
        Check.same("131070", of(240, 159, 191, 190), "fine");
        Check.same("in CODE, too", of(32, 32, 32, 32, 'a', 12), "2 0 5");
    }

    private static void theOneFurtherToTheLeft() {
        Check.same("2, 1", of('a', 11, 128), "2 0 1");
        Check.same("1, 2", of('a', 128, 11), "1 0 1");
        Check.same("two of 2", of(14, 'a', 8), "2 0 0");
        Check.same("in a later chapter", Check.error("a", "b\u0001"), "2 1 1");
        Check.same("65534, no UTF-8", of(239, 191, 190, 255), "2 0 0");
        Check.same("no UTF-8 just ahead of 65534", of(239, 239, 191, 190), "1 0 0");
    }

    /** The number of the line that is too deep. */
    private static void line(String ahead, int number) {
        Check.same("line behind " + ahead, Check.error(ahead + ">>>>>>>>>>>>>"), "5 0 " + number);
    }

    private static void endsOfLines() {
        line("", 0);
        line("\n", 1);
        line("\r", 1);
        line("\r\n", 1);
        line("\n\r", 2);
        line("\r\r", 2);
        line("\n\n", 2);
        line("\r\n\r\n", 2);
        line("\r\n\n", 2);
        line("\n\r\n", 2);
        line("\r\r\n", 2);
        line("a\r\nb\rc\nd\n", 4);
        line("\n".repeat(2980), 2980);
        Check.same("13 at the end", Check.treeOf("a\r"), "par(|a|)");
        Check.same("11 and 12 are no ends, but forbidden", Check.error("a\u000Bb"), "2 0 1");
        Check.same("133 and 8232 are no ends", Check.treeOf("a\u0085b\u2028c"), "par(|a\u0085b\u2028c|)");
    }

    private static void aLineBehindTheLastEnd() {
        Check.same("nothing behind", Check.treeOf("```\n"), "code||");
        Check.same("no end at all", Check.treeOf("```"), "code||");
        Check.same("an empty line", Check.treeOf("```\n\n"), "code|\n|");
        Check.same("a space", Check.treeOf("```\n "), "code| \n|");
        Check.same("a letter", Check.treeOf("```\na"), "code|a\n|");
        Check.same("13 and 10 are one end", Check.treeOf("```\r\n\r\n"), "code|\n|");
        Check.same("10 and 13 are two", Check.treeOf("```\n\r"), "code|\n|");
    }

    private static void tabs() {
        for (int n = 0; n < 10; n++) {
            String ahead = "x".repeat(n);
            String spaces = " ".repeat(4 - n % 4);
            Check.same("a tab behind " + n, Check.treeOf("```\n" + ahead + "\ty"), "code|" + ahead + spaces + "y\n|");
            Check.same("two tabs behind " + n, Check.treeOf("```\n" + ahead + "\t\ty"),
                "code|" + ahead + spaces + "    y\n|");
            String wide = "é".repeat(n);
            Check.same("a tab behind " + n + " of two bytes", Check.treeOf("```\n" + wide + "\ty"),
                "code|" + wide + spaces + "y\n|");
        }
        Check.same("a line of tabs is blank", Check.treeOf("a\n\t\nb"), "par(|a|) par(|b|)");
        Check.same("from the line's beginning", Check.treeOf("a\n\n- b\n\n\tc"),
            "par(|a|) list0loose(item(par(|b|) par(|c|)))");
        Check.same("160 is not blank", Check.treeOf("a\n\u00A0\nb"), "par(|a| soft |\u00A0| soft |b|)");
        String most = "\t".repeat(2995) + "x";
        Check.same("many tabs", Check.error("```\n" + most.substring(4)), "fine");
        BookWorks x = Check.book("~~~\n" + most.substring(4));
        Check.same("each four spaces", x.node(0, 1, 4), 4 * 2991 + 2);
    }
}
