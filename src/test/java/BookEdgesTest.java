import java.io.IOException;
import java.util.Map;

/** Promises 9 and 11 to 17 at their boundaries: nodes, headings, names, terms, and how files are written. */
public final class BookEdgesTest {
    private static final int[] FAR = {Integer.MIN_VALUE, -2, -1, 12, 1501, 3000, Integer.MAX_VALUE};

    public static void main(String[] args) throws IOException {
        askingForNodes();
        askingForLetters();
        valuesOfNodes();
        askingForHeadings();
        signsInNames();
        lengthsOfNames();
        namesAgain();
        parents();
        lengthsOfTerms();
        orderOfTerms();
        askingForTerms();
        targetsInTheBook();
        blocksWritten();
        inlinesWritten();
        contents();
        methods();
        whatCompileKeeps();
        Check.finish();
    }

    private static void askingForNodes() {
        BookWorks x = new BookWorks();
        Check.same("nodes(0) of a new object", x.nodes(0), 0);
        x.chapter();
        Check.same("nodes(0) before compile()", x.nodes(0), 0);
        Check.same("compile", Check.compiled(x), "fine");
        Check.same("nodes of an empty chapter", x.nodes(0), 1);
        x = Check.book("a", "# b\n\nc", "");
        int[] nodes = {3, 5, 1};
        for (int c = 0; c < 3; c++) {
            Check.same("nodes(" + c + ")", x.nodes(c), nodes[c]);
            for (int what = 0; what < 6; what++) {
                Check.isTrue("node(" + c + ", " + (nodes[c] - 1) + ", " + what + ")",
                    what == 1 || x.node(c, nodes[c] - 1, what) >= 0);
                Check.same("node behind the last", x.node(c, nodes[c], what), -1);
            }
            Check.same("node(" + c + ", 0, 6)", x.node(c, 0, 6), -1);
            Check.same("node(" + c + ", 0, -1)", x.node(c, 0, -1), -1);
        }
        Check.same("nodes(3)", x.nodes(3), 0);
        for (int far : FAR) {
            Check.same("nodes(" + far + ")", x.nodes(far), 0);
            Check.same("node(" + far + ", 0, 0)", x.node(far, 0, 0), -1);
            Check.same("node(0, " + far + ", 0)", x.node(0, far, 0), -1);
            Check.same("node(0, 0, " + far + ")", x.node(0, 0, far), -1);
            Check.same("letter(" + far + ", 2, false, 0)", x.letter(far, 2, false, 0), -1);
            Check.same("letter(0, " + far + ", false, 0)", x.letter(0, far, false, 0), -1);
            Check.same("letter(0, 2, false, " + far + ")", x.letter(0, 2, false, far), -1);
            Check.same("letter(0, 2, true, " + far + ")", x.letter(0, 2, true, far), -1);
        }
    }

    private static void letters(BookWorks x, int k, boolean second, String due) {
        Check.same("letters of node " + k, Check.text(x, 0, k, second), due);
        Check.same("letter -1", x.letter(0, k, second, -1), -1);
    }

    private static void askingForLetters() {
        BookWorks x = Check.book("``` i j\nk\n```\n\na `b` [c](d 'e') ![f](g \"h\") <m@n>");
        letters(x, 1, false, "k\n");
        letters(x, 1, true, "i j");
        letters(x, 2, false, "");
        letters(x, 2, true, "");
        letters(x, 3, false, "a ");
        letters(x, 3, true, "");
        letters(x, 4, false, "b");
        letters(x, 6, false, "d");
        letters(x, 6, true, "e");
        letters(x, 9, false, "g");
        letters(x, 9, true, "h");
        letters(x, 12, false, "mailto:m@n");
        letters(x, 13, false, "m@n");
        letters(x, 0, false, "");
        letters(x, 0, true, "");
    }

    private static void valuesOfNodes() {
        BookWorks x = Check.book("###### a\n\n7) b\n\n- **c** *d* ![**e**](f)\n\n> g\n\n***\n\n    h\n\ni  \n`j`\\\n[k](l)\nm");
        String due = "";
        String got = "";
        int[][] all = {{0, -1, 0}, {5, 0, 6}, {8, 1, 0}, {2, 0, 7}, {3, 3, 0}, {4, 4, 0}, {8, 5, 0}, {2, 0, 0}, {3, 7, 0},
            {4, 8, 0}, {13, 9, 0}, {8, 10, 0}, {8, 9, 0}, {12, 9, 0}, {8, 13, 0}, {8, 9, 0}, {15, 9, 0}, {13, 16, -1},
            {8, 17, 0}, {1, 0, 0}, {4, 19, 0}, {8, 20, 0}, {6, 0, 0}, {7, 0, 0}, {4, 0, 0}, {8, 24, 0}, {10, 24, 0},
            {11, 24, 0}, {10, 24, 0}, {14, 24, 0}, {8, 29, 0}, {9, 24, 0}, {8, 24, 0}};
        for (int k = 0; k < all.length; k++) {
            due += all[k][0] + " " + all[k][1] + " " + all[k][2] + ", ";
            got += x.node(0, k, 0) + " " + x.node(0, k, 1) + " " + x.node(0, k, 2) + ", ";
            Check.same("looseness of " + k, x.node(0, k, 3), 0);
        }
        Check.same("kinds, holders and values", got, due);
        Check.same("nodes", x.nodes(0), all.length);
        x = Check.book("- a\n\n- b");
        Check.same("a loose list", x.node(0, 1, 3), 1);
        Check.same("its item", x.node(0, 2, 3), 0);
    }

    private static void askingForHeadings() {
        BookWorks x = Check.book("a", "# bc\n\n## d");
        int[][] due = {{1, 1, -1, 1, 2}, {1, 2, 0, 3, 1}};
        for (int h = 0; h < 2; h++) {
            for (int what = 0; what < 5; what++) {
                Check.same("heading(" + h + ", " + what + ")", x.heading(h, what), due[h][what]);
            }
        }
        for (int far : FAR) {
            Check.same("heading(" + far + ", 0)", x.heading(far, 0), -1);
            Check.same("heading(0, " + far + ")", x.heading(0, far), -1);
            Check.same("name(" + far + ", 0)", x.name(far, 0), -1);
            Check.same("name(0, " + far + ")", x.name(0, far), -1);
        }
        Check.same("heading(2, 0)", x.heading(2, 0), -1);
        Check.same("heading(0, 5)", x.heading(0, 5), -1);
        Check.same("name(0, 1)", x.name(0, 1), 'c');
        Check.same("name(0, 2)", x.name(0, 2), -1);
        Check.same("name(1, 0)", x.name(1, 0), 'd');
        Check.same("name(1, 1)", x.name(1, 1), -1);
        Check.same("name(2, 0)", x.name(2, 0), -1);
    }

    private static String name(String heading) {
        return Check.nameOf(Check.book("# " + heading), 0);
    }

    private static void signsInNames() {
        for (int c = 32; c < 130; c++) {
            String sign = c < 128 && !Character.isLetterOrDigit(c) ? "\\" + (char) c : "" + (char) c;
            String stays = Character.isLetterOrDigit(c) && c < 128 ? "" + Character.toLowerCase((char) c)
                : c == '-' || c == '_' || c > 127 ? "" + (char) c : c == ' ' ? "-" : "";
            Check.same("name with " + c, name("a" + (c == 32 ? "&#32;" : c == 127 ? "\u007F" : sign) + "b"), "a" + stays + "b");
        }
        Check.same("SMALL is for A to Z", name("AZaz\u00C4\u00DF"), "azaz\u00C4\u00DF");
        Check.same("9, 10, 13", name("a&#9;b&#10;c&#13;d"), "ab-cd");
        Check.same("characters above 65535", name("\uD83D\uDE00 x"), "\uD83D\uDE00-x");
        Check.same("a soft and a hard end", Check.nameOf(Check.book("a\nb  \nc\\\nd\n==="), 0), "a-b-c-d");
        Check.same("what inlines tell", name("`a b` *c* **d** [e](f) ![g *h*](i) <ab:j>"), "a-b-c-d-e-g-h-abj");
        Check.same("none", name("!?."), "section");
        Check.same("none at all", Check.nameOf(Check.book("#"), 0), "section");
        Check.same("a single -", name("\\-"), "-");
        Check.same("two spaces", name("a  b"), "a--b");
    }

    private static void lengthsOfNames() {
        for (int n = 58; n <= 63; n++) {
            Check.same("a name of " + n, name("x".repeat(n)).length(), Math.min(n, 60));
            Check.same("a name of " + n + " above 127", name("é".repeat(n)).length(), Math.min(n, 60));
            Check.same("what goes does not count", name("!x?".repeat(n)), "x".repeat(Math.min(n, 60)));
        }
        BookWorks x = Check.book(("# " + "x".repeat(61) + "\n").repeat(12));
        Check.same("with a number behind", Check.nameOf(x, 11), "x".repeat(60) + "-11");
        Check.same("so many", x.heading(11, 4), 63);
        Check.same("its last", x.name(11, 62), '1');
        Check.same("none behind", x.name(11, 63), -1);
    }

    private static String names(String... chapters) {
        BookWorks x = Check.book(chapters);
        StringBuilder b = new StringBuilder();
        for (int h = 0; h < x.about(3); h++) {
            b.append(Check.nameOf(x, h)).append(' ');
        }
        return b.toString();
    }

    private static void namesAgain() {
        Check.same("twice", names("# a\n# a"), "a a-1 ");
        Check.same("in another chapter", names("# a", "# A"), "a a-1 ");
        Check.same("one that is taken", names("# a-1\n# a\n# a"), "a-1 a a-2 ");
        Check.same("a gap", names("# a-2\n# a\n# a\n# a"), "a-2 a a-1 a-3 ");
        Check.same("the least", names("# a\n# a-3\n# a-1\n# a\n# a"), "a a-3 a-1 a-2 a-4 ");
        Check.same("of a name with a number", names("# a\n# a\n# a-1"), "a a-1 a-1-1 ");
        Check.same("noughts ahead are others", names("# a\n# a-01\n# a-0\n# a"), "a a-01 a-0 a-1 ");
        Check.same("longer ones are others", names("# a\n# a-1b\n# ab\n# a"), "a a-1b ab a-1 ");
        Check.same("sections", names("#\n# section\n#\n# section-1"), "section section-1 section-2 section-1-1 ");
        Check.same("no - at all", names("# a1\n# a\n# a"), "a1 a a-1 ");
        Check.same("another sign than -", names("# a12\n# a_2\n# a\n# a\n# a"), "a12 a_2 a a-1 a-2 ");
        Check.same("a - without a number", names("# a-\n# a\n# a"), "a- a a-1 ");
        Check.same("numbers of three digits", names("# a-100\n# a\n# a"), "a-100 a a-1 ");
        StringBuilder all = new StringBuilder();
        StringBuilder due = new StringBuilder("a ");
        for (int k = 0; k < 102; k++) {
            all.append("# a\n");
            due.append(k == 0 ? "" : "a-" + k + " ");
        }
        Check.same("more than a hundred", names(all.toString()), due.toString());
    }

    private static void parents() {
        BookWorks x = Check.book("### a\n## b\n### c\n### d\n###### e\n# f\n## g", "# h\n## i\n#### j\n### k\n#### l\n## m");
        int[] due = {-1, -1, 1, 1, 3, -1, 5, -1, 7, 8, 8, 10, 7};
        for (int h = 0; h < due.length; h++) {
            Check.same("parent of " + h, x.heading(h, 2), due[h]);
        }
        Check.same("of another chapter", Check.book("# a", "b", "## c").heading(1, 2), 0);
    }

    private static String term(String strong) {
        BookWorks x = Check.book(strong);
        return x.about(5) == 0 ? "none" : Check.termOf(x, 0);
    }

    private static void lengthsOfTerms() {
        for (int n = 58; n <= 63; n++) {
            Check.same("a term of " + n, term("**" + "x".repeat(n) + "**").length(), Math.min(n, 60));
            Check.same("a term of " + n + " above 127", term("**" + "é".repeat(n) + "**").length(), Math.min(n, 60));
        }
        Check.same("a space as the 60th", term("**" + "x".repeat(59) + "  y**"), "x".repeat(59) + " ");
        Check.same("a space as the 59th", term("**" + "x".repeat(58) + " \n yz**"), "x".repeat(58) + " y");
        Check.same("a space as the 61st", term("**" + "x".repeat(60) + " y**"), "x".repeat(60));
        Check.same("white at both ends", term("**&#32;&#9;a&#10;&#13;**"), "a");
        Check.same("rows of white", term("**a&#9;&#32;&#13;b\nc  \nd**"), "a b c d");
        Check.same("160 is none", term("**a&nbsp;&nbsp;b**"), "a\u00A0\u00A0b");
        Check.same("all white", term("**&#32;**"), "none");
        Check.same("what inlines tell", term("**a *b* `c` [d](e) ![f](g)**"), "a b c d f");
        Check.same("a strong in a strong", term("**a __b__ c**"), "a b c");
        Check.same("words of more letters", term("**ab  cde**"), "ab cde");
        BookWorks x = Check.book("**&#32;** **a** **&#9;**");
        Check.same("strongs without a term are strongs", x.about(4), 3);
        Check.same("and no terms", x.about(5), 1);
        Check.same("its number", x.term(0, 2), 1);
        Check.same("its node's number", x.node(0, 5, 2), 1);
    }

    private static String terms(String... chapters) {
        BookWorks x = Check.book(chapters);
        StringBuilder b = new StringBuilder();
        for (int k = 0; k < x.about(5); k++) {
            b.append(Check.termOf(x, k)).append(x.term(k, 1) > 1 ? "(" + x.term(k, 1) + ")" : "").append(", ");
        }
        return b.toString();
    }

    private static void orderOfTerms() {
        Check.same("by letters", terms("**b** **a** **c**"), "a, b, c, ");
        Check.same("SMALL", terms("**b** **A** **C** **d**"), "A, b, C, d, ");
        Check.same("A ahead of a", terms("**a** **A**"), "A, a, ");
        Check.same("A ahead of a, too", terms("**A** **a**"), "A, a, ");
        Check.same("the end comes first", terms("**ab** **a** **abc**"), "a, ab, abc, ");
        Check.same("the end first, whatever the form", terms("**Ab** **a** **A** **ab**"), "A, a, Ab, ab, ");
        Check.same("the first that differs", terms("**aB** **Ab** **ab** **AB**"), "AB, Ab, aB, ab, ");
        Check.same("SMALL ahead of forms", terms("**ab** **Aa**"), "Aa, ab, ");
        Check.same("Z and [ and a", terms("**\\[** **Z** **a** **\\_**"), "[, _, a, Z, ");
        Check.same("@ and A, z and {", terms("**\\{** **z** **\\@** **A**"), "@, A, z, {, ");
        Check.same("above 127", terms("**é** **É** **z** **\uD83D\uDE00** **\uFFFD**"), "z, É, é, \uFFFD, \uD83D\uDE00, ");
        Check.same("each once", terms("**a** **b** **a** **A** **a**", "**a** ![**a**](b)"), "A, a(4), b, ");
    }

    private static void askingForTerms() {
        BookWorks x = Check.book("**b** **a** **b**");
        int[][] due = {{1, 1, 1, -1, -1}, {1, 2, 0, 2, -1}};
        for (int k = 0; k < 2; k++) {
            for (int what = 0; what < 5; what++) {
                Check.same("term(" + k + ", " + what + ")", x.term(k, what), due[k][what]);
            }
        }
        for (int far : FAR) {
            Check.same("term(" + far + ", 0)", x.term(far, 0), -1);
            Check.same("term(0, " + far + ")", x.term(0, far), -1);
            Check.same("sign(" + far + ", 0)", x.sign(far, 0), -1);
            Check.same("sign(0, " + far + ")", x.sign(0, far), -1);
        }
        Check.same("term(2, 0)", x.term(2, 0), -1);
        Check.same("sign(0, 0)", x.sign(0, 0), 'a');
        Check.same("sign(0, 1)", x.sign(0, 1), -1);
        Check.same("sign(1, 0)", x.sign(1, 0), 'b');
        Check.same("sign(2, 0)", x.sign(2, 0), -1);
    }

    private static void targetsInTheBook() throws IOException {
        String[] all = new String[12];
        for (int c = 0; c < 12; c++) {
            all[c] = "# h" + (c + 1) + "\n\n[a](#h9) [b](#h10) [c](#h12) [d](c10.xhtml#h10)";
        }
        BookWorks x = Check.book(all);
        for (int c = 0; c < 12; c++) {
            Check.same("targets of " + c, Check.text(x, c, 4, false) + " " + Check.text(x, c, 7, false) + " "
                + Check.text(x, c, 10, false) + " " + Check.text(x, c, 13, false),
                (c == 8 ? "" : "c9.xhtml") + "#h9 " + (c == 9 ? "" : "c10.xhtml") + "#h10 "
                + (c == 11 ? "" : "c12.xhtml") + "#h12 c10.xhtml#h10");
            Check.same("its letters", x.node(c, 10, 4), c == 11 ? 4 : 13);
        }
        Check.isTrue("as it is written", Check.bodyOf(x, 0).contains("<a href=\"c12.xhtml#h12\">c</a>"));
        Check.isTrue("in its own chapter", Check.bodyOf(x, 11).contains("<a href=\"#h12\">c</a>"));
        BookWorks y = Check.book("# a\n\n![b](#a) [c](x#a)", "![b](#a)");
        Check.same("images as they are", Check.bodyOf(y, 1), "<p><img src=\"#a\" alt=\"b\"/></p>\n");
    }

    private static void written(String chapter, String due) throws IOException {
        Check.same("body of " + chapter, Check.bodyOf(Check.book(chapter), 0), due);
    }

    private static void blocksWritten() throws IOException {
        for (int n = 1; n <= 6; n++) {
            written("#".repeat(n) + " a", "<h" + n + " id=\"a\">a</h" + n + ">\n");
        }
        written("#", "<h1 id=\"section\"></h1>\n");
        written("0) a", "<ol start=\"0\">\n<li>a\n</li>\n</ol>\n");
        written("1) a", "<ol>\n<li>a\n</li>\n</ol>\n");
        written("2) a", "<ol start=\"2\">\n<li>a\n</li>\n</ol>\n");
        written("000000010. a", "<ol start=\"10\">\n<li>a\n</li>\n</ol>\n");
        written("999999999. a", "<ol start=\"999999999\">\n<li>a\n</li>\n</ol>\n");
        written("+ a", "<ul>\n<li>a\n</li>\n</ul>\n");
        written("-", "<ul>\n<li></li>\n</ul>\n");
        written(">", "<blockquote>\n</blockquote>\n");
        written("- > a", "<ul>\n<li><blockquote>\n<p>a</p>\n</blockquote>\n</li>\n</ul>\n");
        written("- a\n\n  - b", "<ul>\n<li><p>a</p>\n<ul>\n<li>b\n</li>\n</ul>\n</li>\n</ul>\n");
        written("- a\n  - b\n\n    c", "<ul>\n<li>a\n<ul>\n<li><p>b</p>\n<p>c</p>\n</li>\n</ul>\n</li>\n</ul>\n");
        written("```\n```", "<pre><code></code></pre>\n");
        written("``` \n```", "<pre><code></code></pre>\n");
        written("```a\n```", "<pre><code class=\"language-a\"></code></pre>\n");
        written("```a b\n```", "<pre><code class=\"language-a\"></code></pre>\n");
        written("``` a\tb\n```", "<pre><code class=\"language-a\"></code></pre>\n");
        written("~~~ &lt;\\*\\a&#1; b\n", "<pre><code class=\"language-&lt;*\\a\uFFFD\"></code></pre>\n");
        written("``` a\\\n```\n\n.b", "<pre><code class=\"language-a\\\"></code></pre>\n<p>.b</p>\n");
        written("``` a&amp\n```\n\n;b", "<pre><code class=\"language-a&amp;amp\"></code></pre>\n<p>;b</p>\n");
        written("    <&\">'\n", "<pre><code>&lt;&amp;&quot;&gt;'\n</code></pre>\n");
        written("***\n---\n___", "<hr/>\n<hr/>\n<hr/>\n");
    }

    private static void inlinesWritten() throws IOException {
        written("a\nb", "<p>a\nb</p>\n");
        written("a  \nb\\\nc", "<p>a<br/>\nb<br/>\nc</p>\n");
        written("`<`", "<p><code>&lt;</code></p>\n");
        written("&lt;&amp;&gt;&quot;'", "<p>&lt;&amp;&gt;&quot;'</p>\n");
        written("[a](<b\\>&amp;\"> \"c<>&'\\\"\")",
            "<p><a href=\"b&gt;&amp;&quot;\" title=\"c&lt;&gt;&amp;'&quot;\">a</a></p>\n");
        written("![a&amp;\"*b*](c)", "<p><img src=\"c\" alt=\"a&amp;&quot;b\"/></p>\n");
        written("![a\nb  \nc](d)", "<p><img src=\"d\" alt=\"a b c\"/></p>\n");
        written("![a ![b](c) d](e 'f')", "<p><img src=\"e\" alt=\"a b d\" title=\"f\"/></p>\n");
        written("![a](b '')", "<p><img src=\"b\" alt=\"a\"/></p>\n");
        written("**a** ![**b**](c) **d**",
            "<p><strong id=\"t:0\">a</strong> <img src=\"c\" alt=\"b\"/> <strong id=\"t:1\">d</strong></p>\n");
        written("\u007F\u0080\u07FF\u0800\uFFFD\uD800\uDC00\uDBFF\uDFFF",
            "<p>\u007F\u0080\u07FF\u0800\uFFFD\uD800\uDC00\uDBFF\uDFFF</p>\n");
        written("*a **b** [c](d)* e", "<p><em>a <strong id=\"t:0\">b</strong> <a href=\"d\">c</a></em> e</p>\n");
    }

    private static String file(BookWorks x, String name) throws IOException {
        String all = Check.files(Check.output(x)).get("OEBPS/" + name);
        return all.substring(all.indexOf("<body>\n") + 7, all.indexOf("</body>"));
    }

    private static void contents() throws IOException {
        Check.same("no headings", file(Check.book("a"), "nav.xhtml"), "<h1>Contents</h1>\n");
        Check.same("levels that fall", file(Check.book("### a\n## b\n# c"), "nav.xhtml"), "<h1>Contents</h1>\n<ul>\n"
            + "<li><a href=\"c1.xhtml#a\">a</a></li>\n<li><a href=\"c1.xhtml#b\">b</a></li>\n"
            + "<li><a href=\"c1.xhtml#c\">c</a></li>\n</ul>\n");
        Check.same("levels that rise and fall", file(Check.book("# a\n### b", "#### c\n## d", "# e"), "nav.xhtml"),
            "<h1>Contents</h1>\n<ul>\n<li><a href=\"c1.xhtml#a\">a</a>\n<ul>\n<li><a href=\"c1.xhtml#b\">b</a>\n<ul>\n"
            + "<li><a href=\"c2.xhtml#c\">c</a></li>\n</ul>\n</li>\n<li><a href=\"c2.xhtml#d\">d</a></li>\n</ul>\n</li>\n"
            + "<li><a href=\"c3.xhtml#e\">e</a></li>\n</ul>\n");
        Check.same("six levels", file(Check.book("# a\n## b\n### c\n#### d\n##### e\n###### f"), "nav.xhtml")
            .replaceAll("<a[^>]*>|</a>|\n", ""), "<h1>Contents</h1><ul><li>a<ul><li>b<ul><li>c<ul><li>d<ul><li>e<ul><li>f"
            + "</li></ul></li></ul></li></ul></li></ul></li></ul></li></ul>");
        String[] twelve = new String[12];
        java.util.Arrays.fill(twelve, "**a**");
        Check.same("twelve chapters", file(Check.book(twelve), "index.xhtml"), "<h1>Index</h1>\n<ul>\n<li>a"
            + " <a href=\"c1.xhtml#t:0\">1</a>, <a href=\"c2.xhtml#t:1\">2</a>, <a href=\"c3.xhtml#t:2\">3</a>,"
            + " <a href=\"c4.xhtml#t:3\">4</a>, <a href=\"c5.xhtml#t:4\">5</a>, <a href=\"c6.xhtml#t:5\">6</a>,"
            + " <a href=\"c7.xhtml#t:6\">7</a>, <a href=\"c8.xhtml#t:7\">8</a>, <a href=\"c9.xhtml#t:8\">9</a>,"
            + " <a href=\"c10.xhtml#t:9\">10</a>, <a href=\"c11.xhtml#t:10\">11</a>, <a href=\"c12.xhtml#t:11\">12</a></li>\n</ul>\n");
        Check.same("no terms", file(Check.book("**&#32;**"), "index.xhtml"), "<h1>Index</h1>\n");
        Map<String, String> files = Check.files(Check.output(Check.book(twelve)));
        Check.same("files of twelve", String.join(" ", files.keySet()), "mimetype META-INF/container.xml OEBPS/content.opf"
            + " OEBPS/nav.xhtml OEBPS/c1.xhtml OEBPS/c2.xhtml OEBPS/c3.xhtml OEBPS/c4.xhtml OEBPS/c5.xhtml OEBPS/c6.xhtml"
            + " OEBPS/c7.xhtml OEBPS/c8.xhtml OEBPS/c9.xhtml OEBPS/c10.xhtml OEBPS/c11.xhtml OEBPS/c12.xhtml OEBPS/index.xhtml");
        Check.isTrue("items of twelve", files.get("OEBPS/content.opf").contains("<item id=\"f13\" href=\"index.xhtml\"/>\n"
            + "</manifest><spine>\n<itemref idref=\"f0\"/>\n"));
        Check.isTrue("item f10", files.get("OEBPS/content.opf").contains("<item id=\"f10\" href=\"c10.xhtml\"/>\n"));
        Check.same("title of a later chapter", Check.files(Check.output(Check.book("a", "## *b* & c"))).get("OEBPS/nav.xhtml")
            .replaceAll("(?s).*<title>(.*)</title>.*", "$1"), "b &amp; c");
        Check.same("an empty title", Check.files(Check.output(Check.book("#"))).get("OEBPS/nav.xhtml")
            .replaceAll("(?s).*<title>(.*)</title>.*", "$1"), "");
    }

    /** All bytes of the archive, as the document tells them, with the model of packing. */
    private static byte[] due(Map<String, String> files) {
        Map<String, byte[]> all = new java.util.LinkedHashMap<>();
        for (Map.Entry<String, String> e : files.entrySet()) {
            all.put(e.getKey(), Check.utf8(e.getValue()));
        }
        return Check.packedArchive(all);
    }

    private static void methods() throws IOException {
        String[][] books = {{""}, {"# a\n\n**b** c"}, {"a", "b", "c", "d", "e", "f", "g", "h", "i", "j", "# k", "**l** é"},
            {"a ".repeat(1400), "# b\n\n".repeat(60)}};
        for (String[] chapters : books) {
            byte[] got = Check.output(Check.book(chapters));
            Check.isTrue("all bytes of " + chapters[0], java.util.Arrays.equals(got, due(Check.files(got))));
        }
    }

    private static void whatCompileKeeps() {
        BookWorks x = Check.book("# a **b**");
        Check.tape(x, "tape");
        Check.same("compile again", Check.compiled(x), "fine");
        Check.tapeIs("the tape stays", x, Check.utf8("tape"));
        Check.same("chapters stay", x.about(1), 1);
        Check.same("nodes", x.nodes(0), 5);
        int size = x.about(2);
        Check.tape(x, "<c>");
        x.chapter();
        Check.same("an error", Check.compiled(x), "3 1 0");
        Check.same("the output stays", x.about(2), size);
        Check.same("chapters stay, too", x.about(1), 2);
        Check.same("nothing is known", x.nodes(0) + x.nodes(1) + x.about(3) + x.about(4) + x.about(5), 0);
        Check.same("no heading", x.heading(0, 0), -1);
        Check.same("no name", x.name(0, 0), -1);
        Check.same("no term", x.term(0, 0), -1);
        Check.same("no sign", x.sign(0, 0), -1);
        Check.same("no letter", x.letter(0, 2, false, 0), -1);
        x.drop();
        Check.same("no chapters", Check.compiled(x), "no chapters");
        Check.same("the output stays all the time", x.about(2), size);
        Check.same("the error is told still", x.error(0), 3);
    }
}
