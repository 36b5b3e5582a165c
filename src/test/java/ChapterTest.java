/** Promises 7 to 10: chapter, drop, compile and its errors, error. */
public final class ChapterTest {
    public static void main(String[] args) {
        chapters();
        whatIsKnown();
        errorsOfBytes();
        errorsOfBlocks();
        errorsOfLeaves();
        errorsOfTheBook();
        errorsOfSize();
        orderOfErrors();
        Check.finish();
    }

    private static String chapter(BookWorks x) {
        try {
            return "" + x.chapter();
        } catch (IllegalStateException e) {
            return "no room";
        }
    }

    private static void chapters() {
        BookWorks x = new BookWorks();
        Check.same("compile without chapters", Check.compiled(x), "no chapters");
        Check.same("an empty chapter", chapter(x), "0");
        x.cut(0);
        Check.feed(x, new byte[3001]);
        Check.same("a chapter of 3001 bytes", chapter(x), "no room");
        Check.same("its tape stays", x.about(0), 3001);
        x.cut(3000);
        Check.same("a chapter of 3000 bytes", chapter(x), "1");
        Check.same("the tape is empty then", x.about(0), 0);
        for (int k = 2; k < 12; k++) {
            Check.same("chapter " + k, chapter(x), "" + k);
        }
        Check.tape(x, "a");
        Check.same("a 13th chapter", chapter(x), "no room");
        Check.same("its tape stays too", x.about(0), 1);
        Check.same("about(1)", x.about(1), 12);
        x.drop();
        Check.same("about(1) behind drop()", x.about(1), 0);
        Check.same("the tape behind drop()", x.about(0), 1);
        Check.same("compile behind drop()", Check.compiled(x), "no chapters");
        Check.same("a chapter behind drop()", chapter(x), "0");
    }

    private static void whatIsKnown() {
        BookWorks x = Check.book("# H **s**\n");
        Check.same("nodes", x.nodes(0), 5);
        Check.same("headings", x.about(3), 1);
        Check.same("strongs", x.about(4), 1);
        Check.same("terms", x.about(5), 1);
        int size = x.about(2);
        Check.tape(x, "b");
        x.chapter();
        Check.same("nodes when a chapter came", x.nodes(0), 0);
        Check.same("node when a chapter came", x.node(0, 0, 0), -1);
        Check.same("heading when a chapter came", x.heading(0, 0), -1);
        Check.same("headings when a chapter came", x.about(3), 0);
        Check.same("term when a chapter came", x.term(0, 0), -1);
        Check.same("compile", Check.compiled(x), "fine");
        Check.same("nodes of both", x.nodes(0) * 10 + x.nodes(1), 53);
        Check.same("nodes of a third", x.nodes(2), 0);
        int larger = x.about(2);
        Check.isTrue("the output is another", larger > size);
        Check.tape(x, "<b>");
        x.chapter();
        Check.same("compile with an error", Check.compiled(x), "3 2 0");
        Check.same("the output stays", x.about(2), larger);
        Check.same("nothing is known", x.nodes(0) + x.about(3) + x.about(4) + x.about(5), 0);
        x.drop();
        Check.same("drop leaves the error", x.error(0) * 100 + x.error(1) * 10 + x.error(2), 320);
        Check.same("no chapters", Check.compiled(x), "no chapters");
        Check.same("this leaves the error, too", x.error(0), 3);
        Check.same("error(3)", x.error(3), -1);
        Check.same("error(-1)", x.error(-1), -1);
        Check.tape(x, "b");
        x.chapter();
        Check.same("chapter leaves the error", x.error(0), 3);
        Check.same("compile", Check.compiled(x), "fine");
        x.drop();
        Check.same("drop forgets", x.nodes(0), 0);
        Check.same("the output stays when chapters go", x.about(2), x.take());
    }

    private static String errorOfBytes(int... bytes) {
        BookWorks x = new BookWorks();
        Check.tape(x, Check.bytes(bytes));
        x.chapter();
        return Check.compiled(x);
    }

    private static void errorsOfBytes() {
        Check.same("no UTF-8", errorOfBytes('a', 128), "1 0 1");
        Check.same("ends too early", errorOfBytes('a', 'b', 226, 130), "1 0 2");
        Check.same("goes on wrongly", errorOfBytes('a', 226, 130, 'c'), "1 0 1");
        Check.same("no shortest form of two", errorOfBytes(192, 128), "1 0 0");
        Check.same("no shortest form of three", errorOfBytes(224, 159, 191), "1 0 0");
        Check.same("no shortest form of four", errorOfBytes(240, 143, 191, 191), "1 0 0");
        Check.same("55296", errorOfBytes(237, 160, 128), "1 0 0");
        Check.same("57343", errorOfBytes(237, 191, 191), "1 0 0");
        Check.same("1114112", errorOfBytes(244, 144, 128, 128), "1 0 0");
        Check.same("245", errorOfBytes(245, 128, 128, 128), "1 0 0");
        Check.same("1114111", errorOfBytes(244, 143, 191, 191), "fine");
        Check.same("55295 and 57344", errorOfBytes(237, 159, 191, 238, 128, 128), "fine");
        Check.same("0", errorOfBytes(0), "2 0 0");
        Check.same("31", errorOfBytes('a', 31), "2 0 1");
        Check.same("65534", errorOfBytes('a', 239, 191, 190), "2 0 1");
        Check.same("65535", errorOfBytes(239, 191, 191), "2 0 0");
        Check.same("65533 and 127", errorOfBytes(239, 191, 189, 127), "fine");
        Check.same("9, 10, 13", errorOfBytes('a', 9, 10, 13, 'b'), "fine");
        Check.same("the one to the left: 2", errorOfBytes(1, 255), "2 0 0");
        Check.same("the one to the left: 1", errorOfBytes(255, 1), "1 0 0");
    }

    private static void errorsOfBlocks() {
        Check.same("12 quotes", Check.error(">>>>>>>>>>>>a"), "fine");
        Check.same("13 quotes", Check.error("a\n\n>>>>>>>>>>>>>a"), "5 0 2");
        Check.same("12 of lists and items", Check.error("- - - - - - a"), "fine");
        Check.same("13 of lists and items", Check.error("- - - - - - - a"), "5 0 0");
        Check.same("a list as the 13th", Check.error(">>>>>>>>>>>>- a"), "5 0 0");
        Check.same("an item as the 13th", Check.error(">>>>>>>>>>>- a"), "5 0 0");
        Check.same("code in the 12th", Check.error(">>>>>>>>>>>>     a"), "fine");
        Check.same("13 in the later line", Check.error(">>>>>>>>>>>>\r\n>>>>>>>>>>>>> b"), "5 0 1");
    }

    private static void errorsOfLeaves() {
        Check.same("raw", Check.error("a <b>"), "3 0 0");
        Check.same("raw, closing", Check.error("# h\n\n---\n\n    code\n\na </b >"), "3 0 1");
        Check.same("raw, !", Check.error("a <!x>"), "3 0 0");
        Check.same("raw, ?", Check.error("a <? >"), "3 0 0");
        Check.same("raw, its > far behind", Check.error("a <b\nc `d` > e"), "3 0 0");
        Check.same("no > behind", Check.error("a > <b"), "fine");
        Check.same("no letter", Check.error("a <1> < b> </1>"), "fine");
        Check.same("in coding", Check.error("`<b>`"), "fine");
        Check.same("in code", Check.error("    <b>"), "fine");
        Check.same("forbidden by a reference", Check.error("a\n\n&#x1F;"), "2 0 1");
        Check.same("forbidden 65534", Check.error("&#65534;"), "2 0 0");
        Check.same("forbidden in a target", Check.error("[a](&#1;)"), "fine");
        Check.same("forbidden in a title", Check.error("[a](b '&#1;')"), "fine");
        Check.same("forbidden in coding", Check.error("`&#1;`"), "fine");
        Check.same("2 and 3: the left one", Check.error("&#1; <b>"), "2 0 0");
        Check.same("3 and 2: the left one", Check.error("<b> &#1;"), "3 0 0");
        Check.same("20 deep", Check.error("*a ".repeat(19) + "b" + "*".repeat(19)), "fine");
        Check.same("21 deep", Check.error("*a ".repeat(20) + "b" + "*".repeat(20)), "5 0 0");
        Check.same("21 deep and raw behind", Check.error("*a ".repeat(20) + "b" + "*".repeat(20) + " <b>"), "3 0 0");
        Check.same("21 deep ahead of raw in a later leaf",
            Check.error("*a ".repeat(20) + "b" + "*".repeat(20) + "\n\n<b>"), "5 0 0");
    }

    private static void errorsOfTheBook() {
        Check.same("1500 nodes", Check.error("a\n".repeat(749) + "b"), "fine");
        Check.same("1501 nodes", Check.error("a\n".repeat(749) + "b `c`"), "5 0 -1");
        Check.same("its chapter", Check.error("a", "a\n".repeat(1200)), "5 1 -1");
        String heads = "#\n".repeat(200);
        Check.same("400 headings", Check.error(heads, heads), "fine");
        Check.same("401 headings", Check.error(heads, heads, "#"), "5 2 -1");
        String strongs = "**a** ".repeat(200);
        Check.same("400 strongs", Check.error(strongs, strongs), "fine");
        Check.same("401 strongs", Check.error(strongs, strongs, "b", "**c**"), "5 3 -1");
        Check.same("a strong in an image", Check.error(strongs, strongs, "![**c**](d)"), "fine");
        Check.same("as they come", Check.error(strongs, heads, strongs + "\n\n**b**", heads + "#\n"), "5 2 -1");
        Check.same("without a heading", Check.error("a\n\n[b](#c)"), "4 0 1");
        Check.same("with it", Check.error("# c\n\n[b](#c)"), "fine");
        Check.same("with one in another chapter", Check.error("[b](#c)", "# c"), "fine");
        Check.same("of its own chapter", Check.error("[b](c2.xhtml#c)", "# c"), "fine");
        Check.same("of another chapter", Check.error("[b](c1.xhtml#c)", "# c"), "4 0 0");
        Check.same("no such chapter", Check.error("[b](c3.xhtml#x)", "# c"), "fine");
        Check.same("a nought ahead", Check.error("[b](c01.xhtml#x)", "# c"), "fine");
        Check.same("nav", Check.error("# c\n\n[b](nav.xhtml#c)"), "4 0 1");
        Check.same("index", Check.error("# c\n\n[b](index.xhtml#c)"), "4 0 1");
        Check.same("nav without #", Check.error("[b](nav.xhtml)"), "fine");
        Check.same("an empty name", Check.error("[b](#)"), "4 0 0");
        Check.same("the first # counts", Check.error("# c\n\n[b](#c#c)"), "4 0 1");
        Check.same("another file", Check.error("[b](x#y)"), "fine");
        Check.same("in an image", Check.error("![[b](#c)](d) ![x](#y)"), "fine");
        Check.same("by a definition", Check.error("a\n\n[b]\n\n[b]: #c"), "4 0 1");
    }

    private static void errorsOfSize() {
        // The target is written for each link: more than a file may have.
        String target = "[a]: " + "x".repeat(300) + "\n\n";
        Check.same("a file that is too long", Check.error("b", target + "[a] ".repeat(100)), "6 -1 5");
        String links = target + "[a] ".repeat(70);
        Check.same("files that are too long together", Check.error(links, links, links), "6 -1 6");
        StringBuilder odd = new StringBuilder();
        long seed = 1;
        for (int k = 0; k < 2900; k++) {
            seed = seed * 6364136223846793005L + 1442695040888963407L;
            odd.append((char) ('!' + 1 + (seed >>> 40) % 80));
        }
        String[] chapters = new String[12];
        for (int k = 0; k < 12; k++) {
            chapters[k] = "    " + odd.substring(k) + odd.substring(0, k);
        }
        Check.same("an archive of chapters alike", Check.error(chapters), "6 -1 17");
    }

    private static void orderOfErrors() {
        Check.same("blocks of a chapter ahead of bytes of the next", Check.error(">>>>>>>>>>>>>a", "\u0001"), "5 0 0");
        Check.same("leaves of a chapter ahead of bytes of the next", Check.error("<b>", "\u0001"), "3 0 0");
        Check.same("blocks ahead of leaves", Check.error("<b>\n\n>>>>>>>>>>>>>a"), "5 0 2");
        Check.same("bytes ahead of blocks", Check.error(">>>>>>>>>>>>>a\u0001"), "2 0 14");
        Check.same("links behind all chapters", Check.error("[a](#b)", "<b>"), "3 1 0");
        Check.same("a leaf ahead of the number", Check.error("a\n".repeat(800) + "\n\n<b>"), "3 0 1");
        Check.same("headings ahead of links", Check.error("[a](#b)\n\n" + "#\n".repeat(401)), "5 0 -1");
    }
}
