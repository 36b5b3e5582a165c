/** Promises 26 to 29: pages, cell, page, find. */
public final class PagesTest {
    public static void main(String[] args) {
        askingWrongly();
        words();
        leaves();
        quotesAndLists();
        widths();
        sheets();
        headingsOnSheets();
        finding();
        tooManyLines();
        ownBooks();
        Check.finish();
    }

    private static void is(int rows, int columns, String body, String due) {
        Check.same("pages of " + body, Check.pages(Check.laidOut(rows, columns, body)), due);
    }

    /** On one page of 16 columns. */
    private static void is(String body, String due) {
        is(60, 16, body, due + "#");
    }

    private static String laid(BookWorks x, int rows, int columns) {
        try {
            return "" + x.pages(rows, columns);
        } catch (IllegalStateException e) {
            return "state";
        } catch (IllegalArgumentException e) {
            return "argument";
        }
    }

    private static void askingWrongly() {
        BookWorks x = new BookWorks();
        Check.same("no book", laid(x, 10, 20), "state");
        Check.same("no book, and no such page", laid(x, 4, 20), "state");
        x = Check.laidOut(5, 16, "<p>ab</p>");
        Check.same("4 rows", laid(x, 4, 20), "argument");
        Check.same("61 rows", laid(x, 61, 20), "argument");
        Check.same("15 columns", laid(x, 20, 15), "argument");
        Check.same("81 columns", laid(x, 20, 81), "argument");
        Check.same("rows stay", x.about(8), 5);
        Check.same("columns stay", x.about(9), 16);
        Check.same("cell(0, 0, 1)", x.cell(0, 0, 1), 'b');
        Check.same("cell(0, 0, 2)", x.cell(0, 0, 2), 32);
        Check.same("cell(0, 4, 15)", x.cell(0, 4, 15), 32);
        Check.same("cell(0, 5, 0)", x.cell(0, 5, 0), -1);
        Check.same("cell(0, 0, 16)", x.cell(0, 0, 16), -1);
        Check.same("cell(1, 0, 0)", x.cell(1, 0, 0), -1);
        Check.same("cell(-1, 0, 0)", x.cell(-1, 0, 0), -1);
        Check.same("cell(0, -1, 0)", x.cell(0, -1, 0), -1);
        Check.same("cell(0, 0, -1)", x.cell(0, 0, -1), -1);
        Check.same("page(0, 0)", x.page(0, 0), 0);
        Check.same("page(0, 1)", x.page(0, 1), 1);
        Check.same("page(0, 2)", x.page(0, 2), -1);
        Check.same("page(0, -1)", x.page(0, -1), -1);
        Check.same("page(1, 0)", x.page(1, 0), -1);
        Check.same("page(-1, 0)", x.page(-1, 0), -1);
        Check.same("60 rows, 80 columns", laid(x, 60, 80), "1");
        Check.same("about(8)", x.about(8), 60);
        Check.same("about(9)", x.about(9), 80);
    }

    private static void words() {
        is("<p> a\n\tb   c </p>", "a b c/");
        is("<p>aaaaaaa bbbbbbbb c</p>", "aaaaaaa bbbbbbbb/c/");
        is("<p>aaaaaaaa bbbbbbbb</p>", "aaaaaaaa/bbbbbbbb/");
        is("<p>a <em>b</em>c<code>d e</code>f</p>", "a bcd ef/");
        is("<p>a<br/>b<br/><br/>c<br/></p>", "a/b//c/");
        is("<p>x<br/> y</p><p>z</p>", "x/y//z/");
        is("<p>x<img src=\"s\" alt=\" a  b\"/>y</p>", "x[ a b]y/");
        is("<p><img src=\"s\" alt=\"\"/></p>", "[]/");
        is("<p>aa bbbbbbbbbbbbbbbbccccccccccccccccdd ee</p>", "aa/bbbbbbbbbbbbbbbb/cccccccccccccccc/dd ee/");
        is("<p>aa bbbbbbbbbbbbbbbb cc</p>", "aa/bbbbbbbbbbbbbbbb/cc/");
        is("<p>bbbbbbbbbbbbbbbbcccccccccccccccc dd</p>", "bbbbbbbbbbbbbbbb/cccccccccccccccc/dd/");
        is("<p>a&#160;b &#9; é</p>", "a\u00A0b é/");
        is("<p>&#x1F600;&amp;&lt;</p>", "\uD83D\uDE00&</");
    }

    private static void leaves() {
        is("<p>a</p><p>b</p>", "a//b/");
        is("<p>a</p><p/><p> <em/></p><ul/><blockquote/><pre><code/></pre><p>b</p>", "a//b/");
        is("<h1>a b</h1><h3>c</h3><h6/>", "= a b//=== c//======/");
        is("<h2>aaaaaa bbbbbb cc</h2>", "== aaaaaa bbbbbb/cc/");
        is("<hr/>", "----------------/");
        is("<pre><code>a  b\n\n  c\n</code></pre>", "a  b//  c/");
        is("<pre><code>a</code></pre>", "a/");
        is("<p>x</p><pre><code>\n</code></pre><p>y</p>", "x////y/");
        is("<pre><code>0123456789abcdef\n0123456789abcdefg\n</code></pre>", "0123456789abcdef/0123456789abcdef/g/");
        is("<pre><code>a    \n&#9;b</code></pre>", "a/\tb/");
        is("<p>x</p><p><br/></p><p>y</p>", "x////y/");
    }

    private static void quotesAndLists() {
        is("<blockquote><p>a</p><p>b</p></blockquote>", "> a/>/> b/");
        is("<blockquote><blockquote><hr/></blockquote></blockquote>", "> > ------------/");
        is("<blockquote><pre><code>a\n\nb</code></pre></blockquote>", "> a/>/> b/");
        is("<ul><li>a</li><li>b</li></ul><p>c</p>", "* a/* b//c/");
        is("<ol><li>a</li><li>b</li></ol>", "1. a/2. b/");
        is("<ol start=\"9\"><li>a b c d e f g</li><li>aaa bbb ccc ddd e</li></ol>", "9. a b c d e f g/10. aaa bbb ccc/    ddd e/");
        is("<ol start=\"000\"><li>a</li></ol>", "0. a/");
        is("<ul><li/><li> <em/> </li><li>a</li></ul>", "*/*/* a/");
        is("<ul><li><p>a</p></li><li>b</li></ul>", "* a//* b/");
        is("<ul><li><p>a</p>x<p>b</p></li><li>c<ul><li>d</li></ul>e</li></ul>", "* a//  x//  b//* c/  * d/  e/");
        is("<ul><li>a<p>b</p></li></ul>", "* a//  b/");
        is("<ul><li>a<pre><code>b</code></pre>c</li></ul>", "* a/  b/  c/");
        is("<ul><li>a<blockquote><p>b</p></blockquote></li><li>c</li></ul>", "* a/  > b/* c/");
        is("<ul><li><br/></li><li><hr/></li></ul>", "*/* --------------/");
        is("<ul><li><ul><li><ul><li>a</li></ul></li></ul></li></ul>", "* * * a/");
        is("<ul><li>a<ul><li><p>b</p></li><li>c</li></ul></li><li>d</li></ul>", "* a/  * b//  * c/* d/");
        is("<ul><li><p/>a</li><li>b</li></ul>", "* a/* b/");
        is("<blockquote><ul><li>a</li></ul><p>b</p></blockquote>", "> * a/>/> b/");
        is("<ul><li>a <em>b</em> c</li></ul>", "* a b c/");
        is("<p>x</p><ul><li/></ul>", "x//*/");
    }

    private static void widths() {
        String deep = "<blockquote>".repeat(7) + "<p>abcde</p>" + "</blockquote>".repeat(7);
        is(deep, "> > > > > > > ab/> > > > > > > e/");
        is("<ol start=\"123456789\"><li><ol start=\"123456789\"><li>abcdef</li></ol></li></ol>", "123456789. 12345//");
    }

    private static void sheets() {
        is(5, 16, "<p>a</p><p>b</p><p>c</p><p>d</p>", "a//b//c/#d/#");
        is(5, 16, "<p>a<br/>b<br/>c<br/>d<br/>e</p><p>f</p>", "a/b/c/d/e/#f/#");
        is(5, 16, "<p>a<br/>b<br/>c<br/>d</p><p>f</p>", "a/b/c/d//#f/#");
        is(5, 16, "<pre><code>\n\na</code></pre>", "a/#");
        is(5, 16, "", "#");
        is(5, 16, "<p><br/></p>", "#");
        is(5, 16, "<p>a<br/>b<br/>c<br/>d<br/>e<br/><br/><br/></p>", "a/b/c/d/e/#");
        BookWorks x = Check.laidOut(5, 16, "<p>a</p>", "", "<p>b</p>");
        Check.same("a page each", Check.pages(x), "a/##b/#");
        Check.same("file of page 1", x.page(1, 0), 1);
        Check.same("lines of page 1", x.page(1, 1), 0);
        Check.same("file of page 2", x.page(2, 0), 2);
        is(5, 16, "<blockquote><p>a<br/>b<br/>c<br/>d<br/>e</p><p>f</p></blockquote>", "> a/> b/> c/> d/> e/#>/> f/#");
    }

    private static void headingsOnSheets() {
        is(5, 16, "<p>a<br/>b</p><h1>c</h1><p>d</p>", "a/b//#= c//d/#");
        is(5, 16, "<p>a</p><h1>c</h1><p>d</p>", "a//= c//d/#");
        is(5, 16, "<p>a<br/>b<br/>c</p><h1>d</h1>", "a/b/c//= d/#");
        is(5, 16, "<p>a<br/>b<br/>c</p><h1>d</h1><p/>", "a/b/c//= d/#");
        is(5, 16, "<p>a<br/>b</p><h1>c<br/>d<br/>e</h1><p>f</p>", "a/b//#= c/d/e//f/#");
        is(5, 16, "<p>a<br/>b</p><h1>c<br/>d<br/>e<br/>f</h1><p>g</p>", "a/b//= c/d/#e/f//g/#");
        is(5, 16, "<p>a<br/>b</p><blockquote><h1>c</h1><p>d</p></blockquote>", "a/b//> = c/>/#> d/#");
        is(5, 16, "<p>a<br/>b<br/>c<br/>d</p><ul><li><h2>e</h2></li></ul>", "a/b/c/d//#* == e/#");
        is(5, 16, "<h1>a</h1><h1>b</h1><h1>c</h1>", "= a//= b//= c/#");
        is(5, 16, "<p>a<br/>b</p><h1>c</h1><p><br/></p>", "a/b//#= c///#");
        is(6, 16, "<p>a<br/>b</p><h1>c</h1><p><br/></p><p>d</p>", "a/b//#= c////d/#");
    }

    private static void finding() {
        BookWorks x = Check.laidOut(5, 16,
            "<p id=\"a\">a<br/>b<br/>c<br/>d<br/><em id=\"e\">e</em><br/>f</p><blockquote id=\"q\"><p/><ul><li id=\"l\"/></ul></blockquote>"
            + "<h1 id=\"h\">g</h1><p id=\"é&amp;\"/><ul id=\"\"/><pre id=\"p\"><code id=\"c\">x\ny\nz</code></pre><p id=\"last\"> </p>",
            "<p id=\"a\">b</p>");
        Check.same("pages", Check.pages(x), "a/b/c/d/e/#f//> *//#= g//x/y/z/#b/#");
        String[] ids = {"a", "e", "q", "l", "h", "é&", "", "p", "c", "last"};
        int[] due = {0, 0, 1, 1, 2, 2, 2, 2, 2, 2};
        for (int k = 0; k < ids.length; k++) {
            Check.same("find of " + ids[k], Check.find(x, 0, ids[k]), due[k]);
        }
        Check.same("in the other file", Check.find(x, 1, "a"), 3);
        Check.same("none", Check.find(x, 0, "x"), -1);
        Check.same("a longer one", Check.find(x, 0, "aa"), -1);
        Check.same("no id there", Check.find(x, 1, ""), -1);
        Check.same("no such file", Check.find(x, 2, "a"), -1);
        Check.same("file -1", Check.find(x, -1, "a"), -1);
        Check.tape(x, Check.bytes('a', 200));
        Check.same("no UTF-8", x.find(0), -1);
        Check.tape(x, Check.archive(Check.bookFiles(
            "<html id=\"1\"><head id=\"2\"><title id=\"3\"/></head><body id=\"4\"><pre id=\"5\"><code>\n\n\n</code></pre>"
            + "<ul><li id=\"6\"><em id=\"7\"/><p id=\"8\"> <em id=\"9\">x</em></p><em id=\"10\">y</em></li></ul></body></html>")));
        x.read();
        Check.same("before pages()", Check.find(x, 0, "1"), -1);
        x.pages(5, 16);
        Check.same("its pages", Check.pages(x), "* x//  y/#");
        for (int k = 1; k <= 10; k++) {
            Check.same("find of " + k, Check.find(x, 0, "" + k), 0);
        }
        BookWorks y = Check.laidOut(5, 16, "<p>a<br/>b<br/>c<br/>d<br/>e</p><ul><li id=\"i\">"
            + "<em id=\"j\"/><blockquote id=\"k\"/><strong id=\"m\">x</strong><hr id=\"n\"/></li></ul><hr id=\"o\"/>");
        Check.same("its pages, too", Check.pages(y), "a/b/c/d/e/#* x/  --------------//----------------/#");
        for (String id : new String[] {"i", "j", "k", "m", "n", "o"}) {
            Check.same("find of " + id, Check.find(y, 0, id), 1);
        }
    }

    private static void tooManyLines() {
        String many = "<p>" + "a<br/>".repeat(1499) + "b</p>";
        BookWorks x = Check.laidOut(60, 16, many, many);
        Check.same("3000 lines", x.about(7), 50);
        x.pages(5, 16);
        Check.same("3000 lines on 5 rows", x.about(7), 600);
        x = Check.laidOut(60, 16, "<p>a</p>");
        Check.tape(x, Check.archive(Check.bookFiles(Check.html(many), Check.html("<p>a</p>" + many))));
        Check.same("read", Check.read(x), "2");
        Check.same("3002 lines", laid(x, 60, 16), "state");
        Check.same("no pages", x.about(7), 0);
        Check.same("the other exception first", laid(x, 61, 16), "argument");
        String deep = "<blockquote>".repeat(6) + "<p>" + "aa ".repeat(3001) + "</p>" + "</blockquote>".repeat(6);
        BookWorks y = Check.laidOut(60, 80, deep);
        int pages = y.about(7);
        int letter = y.cell(1, 0, 0);
        Check.same("too many lines in narrow columns", laid(y, 60, 16), "state");
        Check.same("the pages of before stay", y.about(7), pages);
        Check.same("and their columns", y.about(9), 80);
        Check.same("and their letters", y.cell(1, 0, 0), letter);
    }

    private static void ownBooks() {
        BookWorks x = Check.book("# A\n\nb **c** [d](#e)\n\n- f\n  1. g\n", "## E\n\n> h\n\n```\ni\n```");
        x.take();
        Check.same("read", Check.read(x), "4");
        x.pages(20, 20);
        Check.same("its pages", Check.pages(x), "= Contents//* A/  * E/#= A//b c d//* f/  1. g/#== E//> h//i/#= Index//* c 1/#");
        Check.same("find of e", Check.find(x, 2, "e"), 2);
        Check.same("find of t:0", Check.find(x, 1, "t:0"), 1);
    }
}
