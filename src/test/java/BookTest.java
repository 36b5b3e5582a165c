import java.io.IOException;
import java.util.Map;

/** Promises 9 and 14 to 18: the archive that compile makes, heading, name, term, sign, about. */
public final class BookTest {
    private static final String X = "<?xml version=\"1.0\" encoding=\"UTF-8\"?>\n";

    public static void main(String[] args) throws IOException {
        headingsAndNames();
        terms();
        smallestBook();
        wholeBook();
        blocksWritten();
        inlinesWritten();
        bytesOfTheArchive();
        Check.finish();
    }

    private static String names(BookWorks x) {
        StringBuilder b = new StringBuilder();
        for (int h = 0; h < x.about(3); h++) {
            b.append(Check.nameOf(x, h)).append(' ');
        }
        return b.toString();
    }

    private static void headingsAndNames() {
        BookWorks x = Check.book("# A b\n\n### C\n\na\n===\n", "## D\n\n# E\n\n### F\n\n## G");
        Check.same("names", names(x), "a-b c a d e f g ");
        int[][] due = {{0, 1, -1, 1, 3}, {0, 3, 0, 3, 1}, {0, 1, -1, 5, 1}, {1, 2, 2, 1, 1},
            {1, 1, -1, 3, 1}, {1, 3, 4, 5, 1}, {1, 2, 4, 7, 1}};
        for (int h = 0; h < due.length; h++) {
            for (int what = 0; what < 5; what++) {
                Check.same("heading(" + h + ", " + what + ")", x.heading(h, what), due[h][what]);
            }
        }
        Check.same("heading(0, 5)", x.heading(0, 5), -1);
        Check.same("heading(0, -1)", x.heading(0, -1), -1);
        Check.same("heading(7, 0)", x.heading(7, 0), -1);
        Check.same("heading(-1, 0)", x.heading(-1, 0), -1);
        Check.same("name(0, 3)", x.name(0, 3), -1);
        Check.same("name(0, -1)", x.name(0, -1), -1);
        Check.same("name(7, 0)", x.name(7, 0), -1);
        Check.same("signs in names", names(Check.book("# Ab_c-D é!?1 `x`**y**\n\n# ***\n\n#\n\n# a&#10;b&#9;c d")),
            "ab_c-d-é1-xy section section-1 a-bc-d ");
        Check.same("names again", names(Check.book("# a\n\n# a-1\n\n# a\n\n# A\n\n# a-1\n\n# a-01")),
            "a a-1 a-2 a-3 a-1-1 a-01 ");
        String longest = "x".repeat(60);
        Check.same("long names", names(Check.book("# " + longest + "y\n\n# " + longest)),
            longest + " " + longest + "-1 ");
        StringBuilder all = new StringBuilder();
        for (int k = 0; k < 120; k++) {
            all.append("# a\n");
        }
        BookWorks y = Check.book(all.toString());
        Check.same("the 120th a", Check.nameOf(y, 119), "a-119");
        Check.same("breaks and images in names", names(Check.book("a  \n![b *c*](d)\n===")), "a-b-c ");
    }

    private static void terms() {
        BookWorks x = Check.book("**b** **B** **ba** **a\n b** **b**", "**&#32;** **&eacute;** **A** **B** ![**n**](x) **_**");
        String due = "_ A a b B b ba é ";
        StringBuilder got = new StringBuilder();
        for (int k = 0; k < x.about(5); k++) {
            got.append(Check.termOf(x, k)).append(' ');
        }
        Check.same("terms", got.toString(), due);
        Check.same("strongs", x.about(4), 10);
        Check.same("how many B", x.term(3, 1), 2);
        Check.same("the first B", x.term(3, 2), 1);
        Check.same("the second B", x.term(3, 3), 8);
        Check.same("the third B", x.term(3, 4), -1);
        Check.same("how many b", x.term(4, 1), 2);
        Check.same("the second b", x.term(4, 3), 4);
        Check.same("term(0, -1)", x.term(0, -1), -1);
        Check.same("term(-1, 0)", x.term(-1, 0), -1);
        Check.same("term(7, 0)", x.term(7, 0), -1);
        Check.same("a largest what", x.term(0, Integer.MAX_VALUE), -1);
        Check.same("sign(2, 1)", x.sign(2, 1), ' ');
        Check.same("sign(2, 3)", x.sign(2, 3), -1);
        Check.same("sign(2, -1)", x.sign(2, -1), -1);
        Check.same("sign(9, 0)", x.sign(9, 0), -1);
        BookWorks y = Check.book("**" + "x".repeat(59) + " y** **" + "x".repeat(59) + "  z**");
        Check.same("60 characters at most", y.about(5), 1);
        Check.same("with the space", y.sign(0, 59), ' ');
    }

    private static void smallestBook() throws IOException {
        BookWorks x = Check.book("");
        Map<String, String> files = Check.files(Check.output(x));
        Check.same("the files", String.join(" ", files.keySet()), "mimetype META-INF/container.xml "
            + "OEBPS/content.opf OEBPS/nav.xhtml OEBPS/c1.xhtml OEBPS/index.xhtml");
        Check.same("mimetype", files.get("mimetype"), "application/epub+zip");
        Check.same("container", files.get("META-INF/container.xml"), X + "<container version=\"1.0\"><rootfiles>"
            + "<rootfile full-path=\"OEBPS/content.opf\"/></rootfiles></container>\n");
        Check.same("package", files.get("OEBPS/content.opf"), X + "<package version=\"3.0\"><metadata><title>Untitled"
            + "</title></metadata><manifest>\n<item id=\"f0\" href=\"nav.xhtml\"/>\n<item id=\"f1\" href=\"c1.xhtml\"/>\n"
            + "<item id=\"f2\" href=\"index.xhtml\"/>\n</manifest><spine>\n<itemref idref=\"f0\"/>\n<itemref idref=\"f1\"/>\n"
            + "<itemref idref=\"f2\"/>\n</spine></package>\n");
        String head = X + "<html><head><title>Untitled</title></head><body>\n";
        Check.same("nav", files.get("OEBPS/nav.xhtml"), head + "<h1>Contents</h1>\n</body></html>\n");
        Check.same("chapter", files.get("OEBPS/c1.xhtml"), head + "</body></html>\n");
        Check.same("index", files.get("OEBPS/index.xhtml"), head + "<h1>Index</h1>\n</body></html>\n");
        x.take();
        Check.same("read", Check.read(x), "3");
    }

    private static void wholeBook() throws IOException {
        BookWorks x = Check.book("# A & \"B\" \\<C>\n\n### D\n\n**t** **\\<u>**\n\n## E", "# F\n\n**t** [g](#d)");
        Map<String, String> files = Check.files(Check.output(x));
        String head = X + "<html><head><title>A &amp; &quot;B&quot; &lt;C&gt;</title></head><body>\n";
        Check.same("nav", files.get("OEBPS/nav.xhtml"), head + "<h1>Contents</h1>\n<ul>\n"
            + "<li><a href=\"c1.xhtml#a--b-c\">A &amp; &quot;B&quot; &lt;C&gt;</a>\n<ul>\n"
            + "<li><a href=\"c1.xhtml#d\">D</a></li>\n<li><a href=\"c1.xhtml#e\">E</a></li>\n</ul>\n</li>\n"
            + "<li><a href=\"c2.xhtml#f\">F</a></li>\n</ul>\n</body></html>\n");
        Check.same("index", files.get("OEBPS/index.xhtml"), head + "<h1>Index</h1>\n<ul>\n"
            + "<li>&lt;u&gt; <a href=\"c1.xhtml#t:1\">1</a></li>\n"
            + "<li>t <a href=\"c1.xhtml#t:0\">1</a>, <a href=\"c2.xhtml#t:2\">2</a></li>\n</ul>\n</body></html>\n");
        Check.same("second chapter", files.get("OEBPS/c2.xhtml"), head + "<h1 id=\"f\">F</h1>\n"
            + "<p><strong id=\"t:2\">t</strong> <a href=\"c1.xhtml#d\">g</a></p>\n</body></html>\n");
        Check.isTrue("package's title", files.get("OEBPS/content.opf").contains("<title>A &amp; &quot;B&quot; &lt;C&gt;</title>"));
        x.take();
        Check.same("read", Check.read(x), "4");
    }

    private static void written(String chapter, String due) throws IOException {
        Check.same("body of " + chapter, Check.bodyOf(Check.book(chapter), 0), due);
    }

    private static void blocksWritten() throws IOException {
        written("a\n\nb", "<p>a</p>\n<p>b</p>\n");
        written("###### a", "<h6 id=\"a\">a</h6>\n");
        written("***", "<hr/>\n");
        written("    a<b\n", "<pre><code>a&lt;b\n</code></pre>\n");
        written("``` x&amp;\\*y z\n```", "<pre><code class=\"language-x&amp;*y\"></code></pre>\n");
        written("> a\n>\n> > b", "<blockquote>\n<p>a</p>\n<blockquote>\n<p>b</p>\n</blockquote>\n</blockquote>\n");
        written("- a\n- b\n  > c", "<ul>\n<li>a\n</li>\n<li>b\n<blockquote>\n<p>c</p>\n</blockquote>\n</li>\n</ul>\n");
        written("- a\n\n- b", "<ul>\n<li><p>a</p>\n</li>\n<li><p>b</p>\n</li>\n</ul>\n");
        written("1. a", "<ol>\n<li>a\n</li>\n</ol>\n");
        written("007) a", "<ol start=\"7\">\n<li>a\n</li>\n</ol>\n");
        written("0. a\n0. b", "<ol start=\"0\">\n<li>a\n</li>\n<li>b\n</li>\n</ol>\n");
        written("-", "<ul>\n<li></li>\n</ul>\n");
        written("- # a", "<ul>\n<li><h1 id=\"a\">a</h1>\n</li>\n</ul>\n");
    }

    private static void inlinesWritten() throws IOException {
        written("a\nb  \nc", "<p>a\nb<br/>\nc</p>\n");
        written("*a* **b** `c\"`", "<p><em>a</em> <strong id=\"t:0\">b</strong> <code>c&quot;</code></p>\n");
        written("[a](b&c \"d'e\")", "<p><a href=\"b&amp;c\" title=\"d'e\">a</a></p>\n");
        written("[a](b '')", "<p><a href=\"b\">a</a></p>\n");
        written("![a **b**\n`c`](d 'e\"')", "<p><img src=\"d\" alt=\"a b c\" title=\"e&quot;\"/></p>\n");
        written("![](d)", "<p><img src=\"d\" alt=\"\"/></p>\n");
        written("[![a](b)](c)", "<p><a href=\"c\"><img src=\"b\" alt=\"a\"/></a></p>\n");
        written("<ab:c?d&e>", "<p><a href=\"ab:c?d&amp;e\">ab:c?d&amp;e</a></p>\n");
        written("<a@b>", "<p><a href=\"mailto:a@b\">a@b</a></p>\n");
        written("é \u20AC \uD83D\uDE00", "<p>é \u20AC \uD83D\uDE00</p>\n");
        written("[a](c13.xhtml#x)", "<p><a href=\"c13.xhtml#x\">a</a></p>\n");
        written("**a *b* [c](d)** e", "<p><strong id=\"t:0\">a <em>b</em> <a href=\"d\">c</a></strong> e</p>\n");
    }

    private static int twoAt(byte[] b, int at) {
        return b[at] & 255 | (b[at + 1] & 255) << 8;
    }

    private static void bytesOfTheArchive() {
        BookWorks x = Check.book("a");
        byte[] b = Check.output(x);
        int[] local = {80, 75, 3, 4, 20, 0, 0, 0, 0, 0, 0, 0, 33, 0};
        for (int k = 0; k < local.length; k++) {
            Check.same("local header's byte " + k, b[k], local[k]);
        }
        Check.same("name's length", twoAt(b, 26), 8);
        Check.same("mimetype's size", twoAt(b, 18), 20);
        Check.same("the second method", twoAt(b, 58 + 8), 8);
        int end = b.length - 22;
        Check.same("files", twoAt(b, end + 8) * 100 + twoAt(b, end + 10), 606);
        int central = twoAt(b, end + 16);
        Check.same("central headers end at the END", central + twoAt(b, end + 12), end);
        int[] header = {80, 75, 1, 2, 20, 0, 20, 0, 0, 0, 0, 0, 0, 0, 33, 0};
        for (int k = 0; k < header.length; k++) {
            Check.same("central header's byte " + k, b[central + k], header[k]);
        }
        Check.same("the second local header", twoAt(b, central + 54 + 42), 58);
        Check.same("its sign", twoAt(b, 58), 80 + 75 * 256);
    }
}
