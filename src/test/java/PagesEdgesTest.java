/** PAGES and promises 26 to 29 at their boundaries. */
public final class PagesEdgesTest {
    private static final int[] FAR = {Integer.MIN_VALUE, -2, -1, 600, 24000, Integer.MAX_VALUE};

    public static void main(String[] args) {
        rowsAndColumns();
        wordsOfAWidth();
        longWords();
        whiteAndBreaks();
        images();
        headings();
        rules();
        codes();
        quotes();
        signs();
        numbers();
        spacesInLists();
        rowsOfInlines();
        narrowOnes();
        emptyBlocks();
        fullPages();
        emptyLinesAtTheTop();
        headingsAtTheBottom();
        filesOnPages();
        numbersOfLines();
        linesThatCount();
        askingForCells();
        askingForPages();
        findingLeaves();
        findingOthers();
        findingBehind();
        findingWrongly();
        Check.finish();
    }

    private static void is(int rows, int columns, String body, String due) {
        Check.same("pages of " + body, Check.pages(Check.laidOut(rows, columns, body)), due);
    }

    private static void is(String body, String due) {
        is(60, 16, body, due + "#");
    }

    private static String laid(BookWorks x, int rows, int columns) {
        try {
            return "" + x.pages(rows, columns);
        } catch (IllegalStateException e) {
            return "state";
        } catch (IllegalArgumentException e) {
            return "argument";
        }
    }

    private static void rowsAndColumns() {
        BookWorks x = new BookWorks();
        Check.same("none was read", laid(x, 5, 16), "state");
        Check.same("none was read: this first", laid(x, 4, 15), "state");
        x = Check.laidOut(6, 17, "<p>a</p>");
        int[] rows = {Integer.MIN_VALUE, -5, 0, 4, 61, 255, Integer.MAX_VALUE};
        int[] columns = {Integer.MIN_VALUE, -16, 0, 15, 81, 255, Integer.MAX_VALUE};
        for (int k = 0; k < rows.length; k++) {
            Check.same("rows " + rows[k], laid(x, rows[k], 16), "argument");
            Check.same("columns " + columns[k], laid(x, 5, columns[k]), "argument");
            Check.same("both wrong", laid(x, rows[k], columns[k]), "argument");
            Check.same("the pages of before", x.about(7) * 10000 + x.about(8) * 100 + x.about(9), 10617);
        }
        for (int r = 5; r <= 60; r++) {
            Check.same("rows " + r, laid(x, r, 16), "1");
            Check.same("about(8)", x.about(8), r);
            Check.same("the last row", x.cell(0, r - 1, 0), r == 1 ? 'a' : 32);
            Check.same("no row", x.cell(0, r, 0), -1);
        }
        for (int c = 16; c <= 80; c++) {
            Check.same("columns " + c, laid(x, 5, c), "1");
            Check.same("about(9)", x.about(9), c);
            Check.same("the last column", x.cell(0, 0, c - 1), 32);
            Check.same("no column", x.cell(0, 0, c), -1);
        }
    }

    private static void wordsOfAWidth() {
        for (int c : new int[] {16, 17, 40, 79, 80}) {
            String full = "x".repeat(c);
            is(5, c, "<p>" + full + "</p>", full + "/#");
            is(5, c, "<p>" + full + "x</p>", full + "/x/#");
            is(5, c, "<p>a " + full + " b</p>", "a/" + full + "/b/#");
            String half = "y".repeat(c - 2);
            is(5, c, "<p>a " + half + "</p>", "a " + half + "/#");
            is(5, c, "<p>a " + half + "y</p>", "a/" + half + "y/#");
            is(5, c, "<p>" + half + " b c</p>", half + " b/c/#");
        }
        is("<p>aaaaa bbbb ccccc</p>", "aaaaa bbbb ccccc/");
        is("<p>aaaaa bbbb cccccc</p>", "aaaaa bbbb/cccccc/");
        is("<p>" + "a ".repeat(9) + "</p>", "a a a a a a a a/a/");
    }

    private static void longWords() {
        String sixteen = "0123456789abcdef";
        is("<p>" + sixteen + sixteen + "</p>", sixteen + "/" + sixteen + "/");
        is("<p>" + sixteen + sixteen + "g</p>", sixteen + "/" + sixteen + "/g/");
        is("<p>a " + sixteen + "g b</p>", "a/" + sixteen + "/g b/");
        is("<p>" + sixteen + "ghijklmnopqrstu v</p>", sixteen + "/ghijklmnopqrstu/v/");
        is("<p>" + sixteen + "ghijklmnopqrst u</p>", sixteen + "/ghijklmnopqrst u/");
        is("<p>a " + sixteen + sixteen + " b</p>", "a/" + sixteen + "/" + sixteen + "/b/");
        is("<p>é<em>é</em>" + "é".repeat(15) + "</p>", "é".repeat(16) + "/é/");
        is("<p>&#x1F600;" + "x".repeat(15) + "y</p>", "\uD83D\uDE00" + "x".repeat(15) + "/y/");
    }

    private static void whiteAndBreaks() {
        is("<p> \t\n\r a \n\n b &#32;&#9;&#10;&#13; c </p>", "a b c/");
        is("<p>a&#160;b</p>", "a\u00A0b/");
        is("<p>a<br/>b</p>", "a/b/");
        is("<p>a <br/> b</p>", "a/b/");
        is("<p><br/>a</p>", "a/");
        is("<p>x</p><p><br/>a</p>", "x///a/");
        is("<p>a<br/></p><p>b</p>", "a//b/");
        is("<p>a<br/><br/></p><p>b</p>", "a///b/");
        is("<p>a<br/><br/>b</p>", "a//b/");
        is("<p>a<em> </em>b<em> c</em></p>", "a b c/");
        is("<p>a<em>b</em> <strong>c</strong>d</p>", "ab cd/");
        is("<p><a href=\"x\">a <code> b </code></a>c</p>", "a b c/");
    }

    private static void images() {
        is("<p><img src=\"\" alt=\"\"/></p>", "[]/");
        is("<p><img src=\"\" alt=\" \"/></p>", "[ ]/");
        is("<p>a<img src=\"x\" alt=\"b\"/>c</p>", "a[b]c/");
        is("<p><img src=\"x\" alt=\"b  c\"/></p>", "[b c]/");
        is("<p><img src=\"x\" alt=\"0123456789abcd\"/></p>", "[0123456789abcd]/");
        is("<p><img src=\"x\" alt=\"0123456789abcde\"/></p>", "[0123456789abcde/]/");
        is("<p><img src=\"x\" alt=\"&lt;&#65;&quot;\"/></p>", "[<A\"]/");
        is("<ul><li><img src=\"x\" alt=\"a\"/></li></ul>", "* [a]/");
    }

    private static void headings() {
        for (int n = 1; n <= 6; n++) {
            is("<h" + n + ">a</h" + n + ">", "=".repeat(n) + " a/");
            is("<h" + n + "/>", "=".repeat(n) + "/");
        }
        is("<h1>01234567 9abcd</h1>", "= 01234567 9abcd/");
        is("<h1>01234567 9abcde</h1>", "= 01234567/9abcde/");
        is("<h1>0123456789abcd</h1>", "= 0123456789abcd/");
        is("<h1>0123456789abcde</h1>", "=/0123456789abcde/");
        is("<h2><br/>a</h2>", "==/a/");
    }

    private static void rules() {
        is("<hr/>", "-".repeat(16) + "/");
        is(5, 80, "<hr/>", "-".repeat(80) + "/#");
        is("<hr/><hr></hr>", "-".repeat(16) + "//" + "-".repeat(16) + "/");
        is("<blockquote><hr/></blockquote>", "> " + "-".repeat(14) + "/");
        is("<ol start=\"10\"><li><hr/></li></ol>", "10. " + "-".repeat(12) + "/");
    }

    private static void pre(String text, String due) {
        is("<pre><code>" + text + "</code></pre>", due);
    }

    private static void codes() {
        pre("a", "a/");
        pre("a\n", "a/");
        pre("a\n\n", "a//");
        pre("a\nb", "a/b/");
        pre("a\n\nb\n", "a//b/");
        pre("  a  b", "  a  b/");
        pre("0123456789abcdef", "0123456789abcdef/");
        pre("0123456789abcdef\n", "0123456789abcdef/");
        pre("0123456789abcdefg", "0123456789abcdef/g/");
        pre("0123456789abcdef\ng", "0123456789abcdef/g/");
        pre("0123456789abcdef0123456789abcdefg\nh", "0123456789abcdef/0123456789abcdef/g/h/");
        is("<p>x</p><pre><code/></pre><p>y</p>", "x//y/");
        is("<p>x</p><pre><code>\n</code></pre><p>y</p>", "x////y/");
        is("<p>x</p><pre><code> </code></pre><p>y</p>", "x////y/");
        is("<p>x</p><pre><code>\n\n</code></pre><p>y</p>", "x/////y/");
        pre("a\rb", "a\rb/");
        pre("&lt;&#65;&#10;b", "<A/b/");
    }

    private static void quotes() {
        is("<blockquote><p>a</p></blockquote>", "> a/");
        is("<blockquote><p>0123456789abcd</p></blockquote>", "> 0123456789abcd/");
        is("<blockquote><p>0123456789abcde</p></blockquote>", "> 0123456789abcd/> e/");
        is("<blockquote><p>a</p><p>b</p></blockquote><p>c</p>", "> a/>/> b//c/");
        is("<blockquote><blockquote><p>a</p><p>b</p></blockquote><p>c</p></blockquote>", "> > a/> >/> > b/>/> c/");
        is("<blockquote><p>a<br/><br/>b</p></blockquote>", "> a/>/> b/");
        is("<blockquote><ul><li/></ul></blockquote>", "> */");
    }

    private static void signs() {
        is("<ul><li>a</li></ul>", "* a/");
        is("<ul><li>0123456789abcd</li></ul>", "* 0123456789abcd/");
        is("<ul><li>0123456789abcde</li></ul>", "* 0123456789abcd/  e/");
        is("<ul><li/></ul>", "*/");
        is("<ul><li> </li></ul>", "*/");
        is("<ul><li><br/>a</li></ul>", "*/  a/");
        is("<ul><li><blockquote><p>a</p></blockquote></li></ul>", "* > a/");
        is("<ul><li><ol><li>a</li><li>b</li></ol></li></ul>", "* 1. a/  2. b/");
        is("<ul><li><ul/></li><li>a</li></ul>", "*/* a/");
        is("<ul><li><h1>a</h1></li></ul>", "* = a/");
        is("<ul><li><pre><code>a\n b</code></pre></li></ul>", "* a/   b/");
    }

    private static void numbers() {
        is("<ol><li>a</li></ol>", "1. a/");
        is("<ol start=\"0\"><li>a</li><li>b</li></ol>", "0. a/1. b/");
        is("<ol start=\"9\"><li>a</li><li>b</li></ol>", "9. a/10. b/");
        is("<ol start=\"99\"><li>a</li><li>b</li></ol>", "99. a/100. b/");
        is("<ol start=\"007\"><li>a</li></ol>", "7. a/");
        is("<ol start=\"999999999\"><li>a</li><li>b</li></ol>", "999999999. a/1000000000. b/");
        is("<ol><li>0123456789abc</li><li>0123456789abcd</li></ol>", "1. 0123456789abc/2. 0123456789abc/   d/");
        is("<ol start=\"9\"><li>0123456789abc</li><li>0123456789abc</li></ol>",
            "9. 0123456789abc/10. 0123456789ab/    c/");
        is("<ol start=\"9\"><li><ol start=\"3\"><li>a</li></ol></li><li>b</li></ol>", "9. 3. a/10. b/");
    }

    private static void spacesInLists() {
        is("<ul><li>a</li><li>b</li></ul>", "* a/* b/");
        is("<ul><li><p>a</p></li><li>b</li></ul>", "* a//* b/");
        is("<ul><li>a</li><li>b</li><li><p>c</p></li></ul>", "* a//* b//* c/");
        is("<ul><li>a<blockquote><p>b</p></blockquote></li><li>c</li></ul>", "* a/  > b/* c/");
        is("<ul><li>a<ul><li><p>b</p></li><li>c</li></ul></li><li>d</li></ul>", "* a/  * b//  * c/* d/");
        is("<ul><li><p>a</p><ul><li>b</li><li>c</li></ul></li><li>d</li></ul>", "* a//  * b/  * c//* d/");
        is("<ul><li>a<hr/>b</li></ul>", "* a/  --------------/  b/");
        is("<ul><li>a<p>b</p>c</li></ul>", "* a//  b//  c/");
        is("<ul><li>a<h1>b</h1></li><li><p>c</p></li></ul>", "* a/  = b//* c/");
        is("<ul><li><h1>a</h1><h2>b</h2></li></ul>", "* = a/  == b/");
        is("<ul><li>a</li></ul><ul><li>b</li></ul>", "* a//* b/");
        is("<ul><li/><li><p>a</p></li><li/></ul>", "*//* a//*/");
        is("<ul><li><p><br/></p></li><li>a</li></ul>", "*//* a/");
        is("<ul><li><p><img src=\"\" alt=\"\"/></p></li><li>a</li></ul>", "* []//* a/");
        is("<ul><li><p><em><code>x</code></em></p></li><li>a</li></ul>", "* x//* a/");
        is("<ul><li><p/><p>a</p></li><li>b</li></ul>", "* a//* b/");
        is("<ul><li><p/><p> </p></li><li>b</li></ul>", "*/* b/");
    }

    private static void rowsOfInlines() {
        is("<ul><li>a<em>b</em> c</li></ul>", "* ab c/");
        is("<ul><li>a <hr/> <em> </em> <hr/>b</li></ul>", "* a/  --------------/  --------------/  b/");
        is("<ul><li> <p>a</p> <p>b</p> </li></ul>", "* a//  b/");
        is("<ul><li><br/><hr/></li></ul>", "*/  --------------/");
        is("<ul><li>a<ul><li>b</li></ul>c<ul><li>d</li></ul></li></ul>", "* a/  * b/  c/  * d/");
    }

    private static void narrowOnes() {
        String in = "<blockquote>".repeat(6);
        String out = "</blockquote>".repeat(6);
        is(in + "<p>abcde</p>" + out, "> > > > > > abcd/> > > > > > e/");
        is("<blockquote>" + in + "<p>abcde</p>" + out + "</blockquote>", "> > > > > > > ab/> > > > > > > e/");
        is("<blockquote><blockquote>" + in + "<p>abcde</p>" + out + "</blockquote></blockquote>",
            "> > > > > > > >/> > > > > > > >/");
        is(in.substring(12) + "<hr/>" + out.substring(13), "> > > > > ------/");
        is(in + "<hr/>" + out, "> > > > > > ----/");
        is(in + "<h6>a</h6>" + out, "> > > > > > ====/> > > > > > == a/");
        is(5, 17, in + "<p>abcdef</p>" + out, "> > > > > > abcde/> > > > > > f/#");
        is("<ol start=\"123456789\"><li>abcdef</li></ol>", "123456789. abcde/           f/");
        is("<ol start=\"123456789\"><li><ul><li>abcde</li></ul></li></ol>", "123456789. * abc/             e/");
        String deep = "<blockquote>".repeat(57);
        is(5, 80, deep + "<p>abcde</p>" + "</blockquote>".repeat(57),
            ("> ".repeat(40).trim() + "/").repeat(2) + "#");
    }

    private static void emptyBlocks() {
        for (String none : new String[] {"<p/>", "<p> </p>", "<p><em/></p>", "<p><em> </em></p>", "<blockquote/>",
            "<blockquote><p/></blockquote>", "<ul/>", "<ol> </ol>", "<pre><code/></pre>",
            "<blockquote><ul/><pre><code/></pre></blockquote>"}) {
            is("<p>a</p>" + none + "<p>b</p>", "a//b/");
            is(none + "<p>b</p>", "b/");
            is("<p>a</p>" + none, "a/");
            is("<ul><li>" + none + "a</li><li>b" + none + "</li></ul>", "* a/* b/");
            is("<ul><li>a" + none + "b</li></ul>", "* a/  b/");
            is("<blockquote><p>a</p>" + none + "<p>b</p>" + none + "</blockquote><p>c</p>", "> a/>/> b//c/");
            is(5, 16, none, "#");
        }
    }

    private static String lines(int n) {
        StringBuilder b = new StringBuilder("<p>");
        for (int k = 0; k < n; k++) {
            b.append(k == 0 ? "" : "<br/>").append((char) ('a' + k % 26));
        }
        return b + "</p>";
    }

    private static void fullPages() {
        is(5, 16, lines(4), "a/b/c/d/#");
        is(5, 16, lines(5), "a/b/c/d/e/#");
        is(5, 16, lines(6), "a/b/c/d/e/#f/#");
        is(5, 16, lines(10), "a/b/c/d/e/#f/g/h/i/j/#");
        is(5, 16, lines(11), "a/b/c/d/e/#f/g/h/i/j/#k/#");
        Check.same("60 lines", Check.laidOut(60, 16, lines(60)).about(7), 1);
        Check.same("61 lines", Check.laidOut(60, 16, lines(61)).about(7), 2);
        is(5, 16, lines(3) + "<p>x</p>", "a/b/c//x/#");
        is(5, 16, lines(4) + "<p>x</p>", "a/b/c/d//#x/#");
        is(5, 16, lines(5) + "<p>x</p>", "a/b/c/d/e/#x/#");
    }

    private static void emptyLinesAtTheTop() {
        is(5, 16, "<p><br/><br/>a</p>", "a/#");
        is(5, 16, "<pre><code>\n\n\n\n\n\n\na</code></pre>", "a/#");
        is(5, 16, lines(5) + "<pre><code>\n\nx\n\ny</code></pre>", "a/b/c/d/e/#x//y/#");
        is(5, 16, "<pre><code>   \n a</code></pre>", " a/#");
        is(5, 16, lines(5) + "<p><br/><br/></p>", "a/b/c/d/e/#");
        is(5, 16, lines(4) + "<p><br/><br/></p>", "a/b/c/d//#");
        is(5, 16, "<blockquote>" + lines(5) + "<p>x</p></blockquote>", "> a/> b/> c/> d/> e/#>/> x/#");
        is(5, 16, "<ul><li>" + lines(5) + "<p>x</p></li></ul>", "* a/  b/  c/  d/  e/#  x/#");
        is(5, 16, lines(5) + "<ul><li/><li>x</li></ul>", "a/b/c/d/e/#*/* x/#");
        is(5, 16, "<p><br/></p><p><br/></p>", "#");
    }

    private static void headingsAtTheBottom() {
        // A heading, an empty line and one more need three rows.
        is(5, 16, lines(1) + "<h1>x</h1><p>y</p>", "a//= x//y/#");
        is(5, 16, lines(2) + "<h1>x</h1><p>y</p>", "a/b//#= x//y/#");
        is(5, 16, lines(3) + "<h1>x</h1><p>y</p>", "a/b/c//#= x//y/#");
        is(5, 16, lines(4) + "<h1>x</h1><p>y</p>", "a/b/c/d//#= x//y/#");
        for (int n = 1; n <= 6; n++) {
            String head = "<h" + n + ">x</h" + n + ">";
            is(5, 16, lines(2) + head + "<p>y</p>", "a/b//#" + "=".repeat(n) + " x//y/#");
            is(5, 16, lines(1) + head + "<p>y</p>", "a//" + "=".repeat(n) + " x//y/#");
        }
        is(5, 16, "<ul><li>a<h1>b<br/>c<br/>d<br/>e<br/>f</h1></li></ul>", "* a/#  = b/  c/  d/  e/  f/#");
        is(5, 16, "<ul><li>a<h1>b<br/>c<br/>d<br/>e</h1></li></ul>", "* a/  = b/  c/  d/  e/#");
        is(5, 16, lines(3) + "<h1>x</h1>", "a/b/c//= x/#");
        is(5, 16, lines(4) + "<h1>x</h1>", "a/b/c/d//#= x/#");
        is(5, 16, lines(2) + "<h1>x<br/>y</h1>", "a/b//= x/y/#");
        is(5, 16, lines(3) + "<h1>x<br/>y</h1>", "a/b/c//#= x/y/#");
        // Three lines of a heading, an empty one and one more are 5; four and these are 6, too many for a page.
        is(5, 16, lines(1) + "<h1>w<br/>x<br/>y</h1><p>z</p>", "a//#= w/x/y//z/#");
        is(5, 16, lines(1) + "<h1>v<br/>w<br/>x<br/>y</h1><p>z</p>", "a//= v/w/x/#y//z/#");
        is(5, 16, lines(1) + "<h1>v<br/>w<br/>x<br/>y</h1>", "a//#= v/w/x/y/#");
        is(5, 16, lines(1) + "<h1>u<br/>v<br/>w<br/>x<br/>y</h1>", "a//#= u/v/w/x/y/#");
        is(5, 16, lines(1) + "<h1>t<br/>u<br/>v<br/>w<br/>x<br/>y</h1>", "a//= t/u/v/#w/x/y/#");
        // More empty lines behind it.
        is(6, 16, lines(1) + "<h1>x</h1><p><br/>y</p>", "a//= x///y/#");
        is(6, 16, lines(2) + "<h1>x</h1><p><br/>y</p>", "a/b//#= x///y/#");
        is(5, 16, lines(1) + "<h1>x</h1><p><br/></p>", "a//= x///#");
        is(5, 16, lines(2) + "<h1>x</h1><p><br/></p>", "a/b//#= x///#");
        is(5, 16, lines(2) + "<h1>x</h1><pre><code>\n\n\ny</code></pre>", "a/b//= x//#y/#");
        // Without an empty line behind it.
        is(5, 16, lines(1) + "<ul><li><h1>x</h1>y</li></ul>", "a//* = x/  y/#");
        is(5, 16, lines(2) + "<ul><li><h1>x</h1>y</li></ul>", "a/b//* = x/  y/#");
        is(5, 16, lines(3) + "<ul><li><h1>x</h1>y</li></ul>", "a/b/c//#* = x/  y/#");
        // Headings at a page's beginning stay there, and two of them follow each other.
        is(5, 16, "<h1>x</h1>" + lines(5), "= x//a/b/c/#d/e/#");
        is(5, 16, lines(1) + "<h1>x</h1><h2>y</h2><p>z</p>", "a//= x//#== y//z/#");
        is(5, 16, lines(5) + "<h1>x</h1><p>y</p>", "a/b/c/d/e/#= x//y/#");
        is(5, 16, lines(6) + "<h6>x</h6><p>y</p>", "a/b/c/d/e/#f//====== x//y/#");
    }

    private static void filesOnPages() {
        BookWorks x = Check.laidOut(5, 16, lines(6), "", "<p/>", lines(5), "<p><br/></p>", "<p>z</p>");
        Check.same("its pages", Check.pages(x), "a/b/c/d/e/#f/###a/b/c/d/e/##z/#");
        int[] files = {0, 0, 1, 2, 3, 4, 5};
        int[] lines = {5, 1, 0, 0, 5, 0, 1};
        Check.same("pages", x.about(7), 7);
        for (int p = 0; p < 7; p++) {
            Check.same("file of " + p, x.page(p, 0), files[p]);
            Check.same("lines of " + p, x.page(p, 1), lines[p]);
        }
        String[] thirty = new String[30];
        java.util.Arrays.fill(thirty, "");
        x = Check.laidOut(5, 16, thirty);
        Check.same("30 empty files", x.about(7), 30);
        Check.same("the last one's file", x.page(29, 0), 29);
    }

    private static void numbersOfLines() {
        String many = "<p>" + "a<br/>".repeat(2999) + "</p>";
        Check.same("too many elements", Check.read(Check.archive(Check.bookFiles(Check.html(many)))).substring(0, 3), "10 ");
        String half = "<p>" + "a<br/>".repeat(1499) + "b</p>";
        BookWorks x = Check.laidOut(60, 16, half, half);
        Check.same("3000 lines", x.about(7), 50);
        Check.same("the last line", x.cell(49, 59, 0), 'b');
        Check.same("on pages of 5", x.pages(5, 16), 600);
        Check.same("the last line of these", x.cell(599, 4, 0), 'b');
        Check.same("the last page", x.page(599, 0), 1);
        Check.same("none behind", x.page(600, 0), -1);
        Check.tape(x, Check.archive(Check.bookFiles(Check.html(half), Check.html(half), Check.html("<p>c</p>"))));
        Check.same("read", Check.read(x), "3");
        Check.same("3001 lines", laid(x, 60, 16), "state");
        Check.same("3001 lines, and the other exception", laid(x, 4, 16), "argument");
        Check.same("no pages", x.about(7) + x.about(8) + x.about(9), 0);
        Check.same("no cell", x.cell(0, 0, 0), -1);
        // In 17 columns these words make 1500 lines, in 16 columns 3001.
        String words = "<p>" + "abcdefgh ijklmnop ".repeat(1500) + "</p>";
        Check.isTrue("the words are too long for a file", Check.utf8(words).length > 24000);
        String fewer = "<p>" + "abcdefgh ijklmnop ".repeat(500) + "</p>";
        BookWorks y = Check.laidOut(60, 17, fewer);
        Check.same("500 lines", y.about(7), 9);
        Check.same("1000 lines", y.pages(60, 16), 17);
    }

    private static BookWorks packedBook(String... bodies) {
        String[] documents = new String[bodies.length];
        for (int k = 0; k < bodies.length; k++) {
            documents[k] = Check.html(bodies[k]);
        }
        BookWorks x = new BookWorks();
        Check.tape(x, Check.packedArchive(Check.bookFiles(documents)));
        Check.same("read of " + bodies[0], Check.read(x), "" + bodies.length);
        return x;
    }

    private static void linesThatCount() {
        // 1500 lines of p and 1499 between them are 2999; the ends of lines of a pre are left out, but count.
        String blocks = "<hr/>".repeat(1500);
        Check.same("2999 lines", laid(packedBook(blocks), 60, 16), "50");
        Check.same("3000 lines", laid(packedBook(blocks, "<p>a</p>"), 60, 16), "51");
        Check.same("3000 lines, one is left out", laid(packedBook(blocks, "<p><br/></p>"), 60, 16), "51");
        Check.same("3001 lines, one is left out", laid(packedBook(blocks, "<p><br/>a</p>"), 60, 16), "state");
        Check.same("3002 lines, two are left out", laid(packedBook(blocks, "<pre><code>\n\na</code></pre>"), 60, 16), "state");
        Check.same("3001 lines by one between", laid(packedBook(blocks + "<p>a</p>"), 60, 16), "state");
        Check.same("lines of an empty file", laid(packedBook(blocks, "", "<p>a</p>", ""), 60, 16), "53");
        BookWorks x = packedBook(blocks, "<blockquote>".repeat(57) + "<p>abcd</p>" + "</blockquote>".repeat(57));
        Check.same("3000 lines, the last one longer than the page is wide", laid(x, 60, 80), "51");
        Check.same("what is seen of it", x.cell(50, 0, 78), '>');
        Check.same("what is seen of it, too", x.cell(50, 0, 79), 32);
        x = packedBook("<pre><code>" + "\n".repeat(2999) + "a</code></pre>");
        Check.same("2999 empty lines and one", laid(x, 5, 16), "1");
        Check.same("it is the first", x.cell(0, 0, 0), 'a');
        x = packedBook("<pre><code>" + "\n".repeat(3000) + "a</code></pre>");
        Check.same("3000 empty lines and one", laid(x, 5, 16), "state");
        x = packedBook("<pre><code>" + "\n".repeat(20000) + "a</code></pre>");
        Check.same("20000 empty lines", laid(x, 60, 80), "state");
        // Wide pages stay when the narrow ones would have too many lines.
        x = packedBook("<p>" + "ab ".repeat(2500) + "</p>", "<pre><code>" + "x".repeat(23000) + "</code></pre>",
            "<pre><code>" + "x".repeat(22000) + "</code></pre>");
        Check.same("wide pages", laid(x, 60, 80), "12");
        Check.same("narrow ones", laid(x, 60, 16), "state");
        Check.same("the wide ones stay", x.about(7) * 100 + x.about(9), 1280);
        Check.same("their letters stay", x.cell(11, 0, 79), 'x');
    }

    private static void askingForCells() {
        BookWorks x = Check.laidOut(5, 16, lines(6));
        Check.same("cell(0, 0, 0)", x.cell(0, 0, 0), 'a');
        Check.same("cell(0, 4, 0)", x.cell(0, 4, 0), 'e');
        Check.same("cell(0, 5, 0)", x.cell(0, 5, 0), -1);
        Check.same("cell(1, 0, 0)", x.cell(1, 0, 0), 'f');
        Check.same("cell(1, 1, 0)", x.cell(1, 1, 0), 32);
        Check.same("cell(1, 4, 15)", x.cell(1, 4, 15), 32);
        Check.same("cell(1, 4, 16)", x.cell(1, 4, 16), -1);
        Check.same("cell(2, 0, 0)", x.cell(2, 0, 0), -1);
        for (int far : FAR) {
            Check.same("cell(" + far + ", 0, 0)", x.cell(far, 0, 0), -1);
            Check.same("cell(0, " + far + ", 0)", x.cell(0, far, 0), -1);
            Check.same("cell(0, 0, " + far + ")", x.cell(0, 0, far), -1);
        }
        Check.same("cell of a new object", new BookWorks().cell(0, 0, 0), -1);
    }

    private static void askingForPages() {
        BookWorks x = Check.laidOut(5, 16, lines(6));
        int[][] due = {{0, 5, -1}, {0, 1, -1}};
        for (int p = 0; p < 2; p++) {
            for (int what = 0; what < 3; what++) {
                Check.same("page(" + p + ", " + what + ")", x.page(p, what), due[p][what]);
            }
        }
        Check.same("page(2, 0)", x.page(2, 0), -1);
        for (int far : FAR) {
            Check.same("page(" + far + ", 0)", x.page(far, 0), -1);
            Check.same("page(0, " + far + ")", x.page(0, far), -1);
        }
        Check.same("page of a new object", new BookWorks().page(0, 0), -1);
    }

    private static void finds(BookWorks x, int file, String ids, int due) {
        for (String id : ids.split(" ")) {
            Check.same("find(" + file + ") of " + id, Check.find(x, file, id), due);
        }
    }

    private static void findingLeaves() {
        // Each leaf begins on the second page, behind a first one that is full.
        String[] leaves = {"<p id=\"i\">x</p>", "<h1 id=\"i\">x</h1>", "<h6 id=\"i\">x</h6>", "<pre id=\"i\"><code id=\"j\">x</code></pre>",
            "<hr id=\"i\"/>", "<ul id=\"i\"><li id=\"j\">x</li></ul>", "<ul id=\"i\"><li id=\"j\"/></ul>",
            "<blockquote id=\"i\"><p id=\"j\">x</p></blockquote>", "<ol id=\"i\"><li><p id=\"j\">x</p></li></ol>",
            "<p>x<em id=\"i\"/>y<br id=\"j\"/></p>", "<p><img id=\"i\" src=\"\" alt=\"\"/></p>",
            "<ul><li><em id=\"i\">x</em></li></ul>", "<ul><li>x<a href=\"\" id=\"i\"/></li></ul>"};
        for (String leaf : leaves) {
            BookWorks x = Check.laidOut(5, 16, lines(5) + leaf + "<p>y</p>");
            finds(x, 0, leaf.contains("\"j\"") ? "i j" : "i", 1);
            x = Check.laidOut(5, 16, lines(4) + leaf + "<p>y</p>");
            finds(x, 0, leaf.contains("\"j\"") ? "i j" : "i", 1);
        }
        // A leaf that begins on the first page and goes on.
        BookWorks x = Check.laidOut(5, 16, lines(3) + "<p id=\"i\">x<br/>y<em id=\"j\">z</em></p><p id=\"k\">w</p>");
        Check.same("its pages", Check.pages(x), "a/b/c//x/#yz//w/#");
        finds(x, 0, "i j", 0);
        finds(x, 0, "k", 1);
        x = Check.laidOut(5, 16, lines(2) + "<ul><li id=\"i\">x<hr id=\"j\"/>v<em id=\"k\">u</em></li></ul>");
        Check.same("its pages, too", Check.pages(x), "a/b//* x/  --------------/#  vu/#");
        finds(x, 0, "i j", 0);
        finds(x, 0, "k", 1);
        x = Check.laidOut(5, 16, lines(3) + "<ul><li id=\"i\">x<br/>y<em id=\"j\">z</em><hr id=\"k\"/>v<em id=\"l\">u</em></li></ul>");
        finds(x, 0, "i j", 0);
        finds(x, 0, "k l", 1);
    }

    private static void findingOthers() {
        BookWorks x = new BookWorks();
        String text = "<html id=\"h\"><head id=\"i\"><title id=\"j\">t</title></head><body id=\"k\">" + lines(6) + "</body></html>";
        String late = "<html id=\"h\"><head id=\"i\"><title id=\"j\">t</title></head><body id=\"k\"><p/><ul/></body></html>";
        Check.tape(x, Check.archive(Check.bookFiles(Check.html(lines(6)), text, late)));
        Check.same("read", Check.read(x), "3");
        Check.same("pages", x.pages(5, 16), 5);
        finds(x, 1, "h i j k", 2);
        finds(x, 2, "h i j k", 4);
        finds(x, 0, "h i j k", -1);
    }

    private static void findingBehind() {
        // What has no lines is found by what stands behind it; at the end by the last page.
        String[] none = {"<p id=\"i\"/>", "<p><em id=\"i\"/></p>", "<ul id=\"i\"/>", "<blockquote id=\"i\"><p id=\"j\"/></blockquote>",
            "<pre id=\"i\"><code id=\"j\"/></pre>", "<ol><li><p id=\"i\"/></li></ol>"};
        for (String one : none) {
            boolean sign = one.contains("<li>");
            BookWorks x = Check.laidOut(5, 16, lines(4) + one + "<p>y</p>");
            finds(x, 0, one.contains("\"j\"") ? "i j" : "i", 1);
            x = Check.laidOut(5, 16, lines(4) + one);
            finds(x, 0, one.contains("\"j\"") ? "i j" : "i", sign ? 1 : 0);
            x = Check.laidOut(5, 16, lines(4) + one, "<p>y</p>");
            finds(x, 0, one.contains("\"j\"") ? "i j" : "i", sign ? 1 : 0);
            x = Check.laidOut(5, 16, lines(7) + one, "<p>y</p>");
            finds(x, 0, one.contains("\"j\"") ? "i j" : "i", 1);
        }
        // Lines that are left out at a page's beginning did not come to a page.
        BookWorks x = Check.laidOut(5, 16, lines(5) + "<p id=\"i\"><br/><br/></p><p id=\"j\">x</p>");
        Check.same("its pages", Check.pages(x), "a/b/c/d/e/#x/#");
        finds(x, 0, "i j", 1);
        x = Check.laidOut(5, 16, lines(4) + "<p id=\"i\"><br/><br/></p>");
        Check.same("its pages, too", Check.pages(x), "a/b/c/d//#");
        finds(x, 0, "i", 0);
        x = Check.laidOut(5, 16, lines(3) + "<p id=\"i\"><br/>x</p>");
        Check.same("an empty line that came to a page", Check.pages(x), "a/b/c///#x/#");
        finds(x, 0, "i", 0);
        x = Check.laidOut(5, 16, "<p id=\"i\"/>", "<p>y</p>");
        finds(x, 0, "i", 0);
    }

    private static void findingWrongly() {
        BookWorks x = Check.laidOut(5, 16, "<p id=\"a\">a</p><p id=\"é&lt;\">b</p>", "<p id=\"\">c</p>");
        finds(x, 0, "a é<", 0);
        finds(x, 0, "b aa A é é<> &lt;", -1);
        Check.same("the empty id", Check.find(x, 1, ""), 1);
        Check.same("no empty id", Check.find(x, 0, ""), -1);
        Check.same("no such file", Check.find(x, 2, ""), -1);
        for (int far : FAR) {
            Check.same("find(" + far + ")", x.find(far), -1);
        }
        for (int[] row : new int[][] {{'a', 128}, {195}, {195, 'x'}, {237, 160, 128}, {'a', 0}, {255}}) {
            Check.tape(x, Check.bytes(row));
            Check.same("no such id", x.find(0), -1);
        }
        Check.tape(x, "a");
        Check.same("find(0)", x.find(0), 0);
        Check.tapeIs("the tape stays", x, Check.utf8("a"));
        Check.same("find of a new object", new BookWorks().find(0), -1);
        Check.tape(x, Check.archive(Check.bookFiles(Check.html("<p id=\"a\">a</p>"))));
        x.read();
        Check.same("before pages()", Check.find(x, 0, "a"), -1);
        x.pages(5, 16);
        Check.same("behind pages()", Check.find(x, 0, "a"), 0);
        Check.same("a file of the book ahead", Check.find(x, 1, ""), -1);
    }
}
