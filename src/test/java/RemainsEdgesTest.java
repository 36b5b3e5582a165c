import java.util.Map;

/**
 * What ends, ends: a leaf where the next one begins, a chapter, a tape that was cut, a file of the spine, and what
 * earlier calls knew. What stood there before, or stands behind, must not count.
 */
public final class RemainsEdgesTest {
    public static void main(String[] args) {
        leavesBesideLeaves();
        definitionsBesideLeaves();
        chaptersBehindChapters();
        tapesThatWereCut();
        booksBehindBooks();
        archivesBehindArchives();
        filesBesideFiles();
        pagesBehindPages();
        pagesOfOtherBooks();
        filesInAnotherOrder();
        blocksBehindBlocks();
        Check.finish();
    }

    private static void is(String chapter, String due) {
        Check.same("tree of " + chapter, Check.treeOf(chapter), due);
    }

    /** A paragraph and a heading, each text alone, though together they would be something else. */
    private static void two(String first, String second) {
        is("x" + first + "\n# " + second, "par(|x" + first + "|) head1(|" + second + "|)");
    }

    private static void leavesBesideLeaves() {
        two("&amp", ";");
        two("&", "amp;");
        two("&#", "65;");
        two("&#6", "5;");
        two("&#65", ";");
        two("&#x", "41;");
        two("&#x41", ";");
        two("\\", ".y");
        two("`", "`");
        two("`a", "`b");
        two("``a`", "`b");
        two("<", "ab:c>");
        two("<ab", ":c>");
        two("<ab:", ">");
        two("<ab:c", ">");
        two("<1", "@b>");
        two("<1@", "b>");
        two("<1@b", ">");
        two("<", "b>");
        two("<b", ">");
        two("</", "b>");
        two("</b", ">");
        two("<!", ">");
        two("!", "[y");
        two("[a]", "(b)");
        two("[a](", "b)");
        two("[a](b", ")");
        two("[a](<b", ">)");
        two("[a](b 'c", "')");
        two("[a](b 'c'", ")");
        two("[a](b\\", ")");
        two("[a", "](b)");
        is("!\n\n[a](b)", "par(|!|) par(link|b|(|a|))");
        is("_a_\n\nb", "par(em(|a|)) par(|b|)");
        is("b\n\n_a_", "par(|b|) par(em(|a|))");
        is("*a*\n\nb", "par(em(|a|)) par(|b|)");
        is(".\n\n*a*", "par(|.|) par(em(|a|))");
        is("*a\n\nb*", "par(|*a|) par(|b*|)");
        is("[x]: u\n\n[a]\n\n[x]", "par(|[a]|) par(link|u|(|x|))");
        is("[x]: u\n\n[a][\n\nx]", "par(|[a][|) par(|x]|)");
        is("[x]: u\n\n[x]\n\n[]", "par(link|u|(|x|)) par(|[]|)");
        is("[x]: u\n\n[x][\n\n]", "par(link|u|(|x|) |[|) par(|]|)");
        is("[x]: u\n\n[x\n\n]", "par(|[x|) par(|]|)");
        is("[x]: u\n\n[x][]y", "par(link|u|(|x|) |y|)");
        is("[x]: u\n\n[a][x]y", "par(link|u|(|a|) |y|)");
        is("# a *\n# b*", "head1(|a *|) head1(|b*|)");
        is("*a _b* c_\n\n*a _b_ c*", "par(em(|a _b|) | c_|) par(em(|a | em(|b|) | c|))");
        is("[a ![b](c)](d)\n\n![a [b](c)](d)", "par(link|d|(|a | image|c|(|b|))) par(image|d|(|a | link|c|(|b|)))");
    }

    private static void definitionsBesideLeaves() {
        is("[a]:\n# b\n\n[a]", "par(|[a]:|) head1(|b|) par(|[a]|)");
        is("[a]\n# : b\n\n[a]", "par(|[a]|) head1(|: b|) par(|[a]|)");
        is("[a\n# ]: b\n\n[a]", "par(|[a|) head1(|]: b|) par(|[a]|)");
        is("[a]: b\n# 'c'\n\n[a]", "head1(|'c'|) par(link|b|(|a|))");
        is("[a]: b 'c\n# '\n\n[a]", "par(|[a]: b 'c|) head1(|'|) par(|[a]|)");
        is("[a]: b 'c\n# ' \n\n[a]", "par(|[a]: b 'c|) head1(|'|) par(|[a]|)");
        is("[a]: <1\n# >\n\n[a]", "par(|[a]: <1|) head1(|>|) par(|[a]|)");
        is("[a]: b\\\n# (c\n\n[a]", "head1(|(c|) par(link|b\\|(|a|))");
        is("[a]: b(\n# )\n\n[a]", "par(|[a]: b(|) head1(|)|) par(|[a]|)");
        is("[a]: b\n\n'c'\n\n[a]", "par(|'c'|) par(link|b|(|a|))");
        is("[a]: &amp\n# ;\n\n[a]", "head1(|;|) par(link|&amp|(|a|))");
        is("[a]: b 'c'\n[d]: e 'f'\n[g]: h\n\n[a] [d] [g]",
            "par(link|b|'c'(|a|) | | link|e|'f'(|d|) | | link|h|(|g|))");
        is("[a!b]: c\n\n[a b]", "par(|[a b]|)");
        is("[x]: u\n\n[x" + " ".repeat(99) + "]", "par(link|u|(|x" + " ".repeat(99) + "|))");
        is("[x]: u\n\n[x" + " ".repeat(100) + "]", "par(|[x" + " ".repeat(100) + "]|)");
        is("[x]: u\n\n[a][x" + " ".repeat(99) + "]", "par(link|u|(|a|))");
        is("[x]: u\n\n[a][x" + " ".repeat(100) + "]", "par(|[a][x" + " ".repeat(100) + "]|)");
    }

    private static void chaptersBehindChapters() {
        BookWorks x = new BookWorks();
        Check.tape(x, Check.bytes(195, 169, 226, 130, 172));
        x.chapter();
        x.drop();
        for (int[] row : new int[][] {{195}, {195, 169, 226}, {195, 169, 226, 130}}) {
            Check.tape(x, Check.bytes(195, 169, 226, 130, 172));
            x.chapter();
            x.drop();
            Check.tape(x, Check.bytes(row));
            x.chapter();
            Check.same("a row that ends too early, " + row.length, Check.compiled(x), "1 0 " + (row.length > 1 ? 2 : 0));
            x.drop();
        }
        Check.tape(x, "abc\ndef");
        x.chapter();
        Check.same("compile", Check.compiled(x), "fine");
        x.drop();
        Check.tape(x, "g\r");
        x.chapter();
        Check.same("compile", Check.compiled(x), "fine");
        Check.same("a shorter chapter", Check.tree(x, 0), "par(|g|)");
        BookWorks y = Check.book("- a\n\n\n- b", "- a", "- a\n\n\n- b", "1. c\n2. d");
        Check.same("the first list is loose", Check.tree(y, 0), "list0loose(item(par(|a|)) item(par(|b|)))");
        Check.same("the second is tight", Check.tree(y, 1), "list0(item(par(|a|)))");
        Check.same("the fourth is tight", Check.tree(y, 3), "list1(item(par(|c|)) item(par(|d|)))");
        String[] twelve = new String[12];
        java.util.Arrays.fill(twelve, "a");
        BookWorks z = Check.book(twelve);
        Check.same("nodes(11)", z.nodes(11), 3);
        Check.same("nodes(12)", z.nodes(12), 0);
        Check.same("node(12, 0, 0)", z.node(12, 0, 0), -1);
        Check.same("letter(12, 0, false, 0)", z.letter(12, 0, false, 0), -1);
    }

    private static String looked(BookWorks x) {
        try {
            return x.xml() + " elements";
        } catch (IllegalArgumentException e) {
            return "at " + x.fault(2);
        }
    }

    private static void tapesThatWereCut() {
        String whole = "<?xml version=\"1.0\" encoding=\"UTF-8\"?>\n<a b=\"c&lt;\" >é<e/>f&#65;<g h=\"i\"></g ></a> ";
        byte[] b = Check.utf8(whole);
        BookWorks x = new BookWorks();
        for (int n = b.length; n >= 0; n--) {
            BookWorks fresh = new BookWorks();
            Check.tape(fresh, java.util.Arrays.copyOf(b, n));
            Check.tape(x, b);
            x.cut(n);
            Check.same("xml() of a tape that was cut to " + n, looked(x), looked(fresh));
        }
        int letter = whole.indexOf('é');
        Check.tape(x, b);
        x.cut(letter + 1);
        Check.same("within é", looked(x), "at " + letter);
        byte[] packed = Packs.model(Check.utf8("some words, and some words, and more of the words".repeat(9)));
        for (int n = 0; n < packed.length; n++) {
            Check.tape(x, packed);
            x.cut(n);
            try {
                Check.same("unpack() of a part", x.unpack(), -1);
            } catch (IllegalArgumentException e) {
                Check.same("unpack() of a tape that was cut to " + n, x.fault(0) * 100000 + x.fault(2), 100000 + n);
            }
        }
        Check.same("a first sign that is another", looked(tapeOf("a" + whole.substring(1))), "at 0");
        BookWorks y = Check.laidOut(5, 16, "<p id=\"a\">a</p><p id=\"ab\">b</p><p id=\"é\">c</p>");
        Check.tape(y, "ab");
        y.cut(1);
        Check.same("find of an id that was cut", y.find(0), 0);
        Check.tape(y, "é");
        y.cut(1);
        Check.same("find of half a character", y.find(0), -1);
        Check.tape(y, "a");
        y.cut(0);
        Check.same("find of nothing", y.find(0), -1);
    }

    private static BookWorks tapeOf(String text) {
        BookWorks x = new BookWorks();
        Check.tape(x, text);
        return x;
    }

    private static void booksBehindBooks() {
        BookWorks x = Check.book("# a\n\n# b\n\n**c** **d** **e**", "f");
        x.drop();
        Check.tape(x, "# g\n\n**h**");
        x.chapter();
        Check.same("compile", Check.compiled(x), "fine");
        Check.same("headings", x.about(3), 1);
        for (int k = 1; k < 4; k++) {
            Check.same("heading " + k, x.heading(k, 0), -1);
            Check.same("name " + k, x.name(k, 0), -1);
            Check.same("term " + k, x.term(k, 0), -1);
            Check.same("sign " + k, x.sign(k, 0), -1);
            Check.same("nodes " + k, x.nodes(k), 0);
            Check.same("node " + k, x.node(k, 0, 0), -1);
        }
        Check.same("its name", Check.nameOf(x, 0), "g");
        Check.same("its term", Check.termOf(x, 0), "h");
        Check.same("its strongs", x.term(0, 1), 1);
        Check.same("none behind", x.term(0, 3), -1);
        Check.same("its nodes", x.nodes(0), 6);
        Check.same("none behind these", x.node(0, 6, 0), -1);
        Check.same("an index of its own", Check.book("a").about(5), 0);
        compiledAgainAndAgain();
        labelsOfAllChapters();
    }

    private static void add(BookWorks x, String... chapters) {
        x.drop();
        for (String text : chapters) {
            Check.tape(x, text);
            x.chapter();
        }
    }

    private static void compiledAgainAndAgain() {
        String[] long4 = {"# a\n\n" + "b ".repeat(1400), "## c\n\n" + "d ".repeat(1400), "# e\n\n" + "f ".repeat(1400), "g **h**"};
        String links = "[a]: " + "x".repeat(300) + "\n\n" + "[a] ".repeat(60) + "y";
        BookWorks x = new BookWorks();
        byte[] first = null;
        byte[] second = null;
        for (int turn = 0; turn < 20; turn++) {
            add(x, long4);
            Check.same("compile " + turn, Check.compiled(x), "fine");
            byte[] got = Check.output(x);
            first = first == null ? got : first;
            Check.isTrue("the same bytes again", java.util.Arrays.equals(first, got));
            Check.same("its last letter", x.letter(2, x.nodes(2) - 1, false, 2798), 'f');
            add(x, links, links, links);
            Check.same("files of almost 60000", Check.compiled(x), "fine");
            got = Check.output(x);
            second = second == null ? got : second;
            Check.isTrue("the same bytes again, too", java.util.Arrays.equals(second, got));
            add(x, links, links, links, links);
            Check.same("files of more", Check.compiled(x), "6 -1 7");
            add(x, "# i\n\n## j", "### k");
            Check.same("a short one", Check.compiled(x), "fine");
            Check.same("its names", Check.nameOf(x, 0) + Check.nameOf(x, 1) + Check.nameOf(x, 2), "ijk");
            Check.same("its letter", x.letter(1, 2, false, 0), 'k');
        }
    }

    private static void labelsOfAllChapters() {
        String[] all = new String[12];
        for (int c = 0; c < 12; c++) {
            StringBuilder b = new StringBuilder();
            for (int k = 10; k < 36; k++) {
                b.append("[" + k + "x".repeat(97) + "]: t" + k + "\n");
            }
            all[c] = b + "\n[10" + "x".repeat(97) + "] [35" + "x".repeat(97) + "]";
        }
        BookWorks x = Check.book(all);
        for (int c = 0; c < 12; c++) {
            Check.same("labels of chapter " + c, Check.tree(x, c).replace("x", ""), "par(link|t10|(|10|) | | link|t35|(|35|))");
        }
    }

    private static void archivesBehindArchives() {
        byte[] b = Check.archive(Check.bookFiles(Check.html("<p>a</p>"), Check.html("<p>b</p>")));
        Map<String, byte[]> fewer = Check.bookFiles(Check.html("<p><a href=\"d1.x#q\"/></p>"));
        fewer.put("o/d1.x", Check.utf8("no XML"));
        byte[] other = Check.archive(fewer);
        BookWorks x = new BookWorks();
        for (int turn = 0; turn < 5; turn++) {
            Check.tape(x, b);
            Check.same("two files, time " + turn, Check.read(x), "2");
            Check.same("two files again, time " + turn, Check.read(x), "2");
            Check.tape(x, other);
            Check.same("a link to a file that is not in the spine", Check.read(x), "1");
            Check.same("pages", x.pages(5, 16), 1);
            Check.same("no second file", Check.find(x, 1, ""), -1);
        }
        String item = "<item id=\"i0\" href=\"d0.x\"/>";
        String spine = "<spine><itemref idref=\"i0\"/></spine>";
        Map<String, byte[]> longer = Check.bookFiles(Check.html("<p>a</p>"));
        longer.put("o/p.opf", Check.utf8("<package><x/><x/><manifest>" + item + "<item id=\"i1\" href=\"\"/></manifest>" + spine
            + "</package>"));
        Map<String, byte[]> shorter = Check.bookFiles(Check.html("<p>a</p>"));
        shorter.put("o/p.opf", Check.utf8("<package>" + spine + "<manifest>" + item + "</manifest></package>"));
        for (int turn = 0; turn < 3; turn++) {
            Check.tape(x, Check.archive(longer));
            Check.same("two items", Check.read(x), "1");
            Check.same("two items again", Check.read(x), "1");
            Check.tape(x, Check.archive(shorter));
            Check.same("one item", Check.read(x), "1");
            Check.same("one item again", Check.read(x), "1");
        }
        byte[] wrong = b.clone();
        wrong[40] ^= 1;
        for (int turn = 0; turn < 3; turn++) {
            Check.tape(x, wrong);
            Check.same("a fault", Check.read(x), "4 0 0");
            Check.tape(x, b);
            Check.same("no fault", Check.read(x), "2");
            Check.same("fault(0)", x.fault(0), 0);
        }
    }

    private static void filesBesideFiles() {
        String second = "<html id=\"h\"><head><title/></head><body/></html>";
        BookWorks x = new BookWorks();
        Check.tape(x, Check.archive(Check.bookFiles(Check.html("<p>a</p>"), second)));
        Check.same("read", Check.read(x), "2");
        x.pages(5, 16);
        Check.same("an id of the next file", Check.find(x, 0, "h"), -1);
        Check.same("the empty id", Check.find(x, 0, ""), -1);
        Check.same("in its file", Check.find(x, 1, "h"), 1);
        Check.same("a link to an id of the next file",
            Check.read(Check.archive(Check.bookFiles(Check.html("<p><a href=\"#h\"/></p>"), second))), "12 3 44");
        Check.same("with its name", Check.read(Check.archive(Check.bookFiles(Check.html("<p><a href=\"d1.x#h\"/></p>"), second))), "2");
        String[] thirty = new String[30];
        java.util.Arrays.fill(thirty, Check.html("<p id=\"i\">a</p>"));
        Check.tape(x, Check.archive(Check.bookFiles(thirty)));
        Check.same("read 30", Check.read(x), "30");
        x.pages(5, 16);
        Check.same("find(29)", Check.find(x, 29, "i"), 29);
        Check.same("find(30)", Check.find(x, 30, "i"), -1);
        BookWorks y = Check.laidOut(5, 16, "<p>a<br/>b<br/>c</p><h1>x</h1>", "<p><br/>y</p>");
        Check.same("a heading ahead of the next file's empty line", Check.pages(y), "a/b/c//= x/#y/#");
    }

    private static void pagesBehindPages() {
        BookWorks x = new BookWorks();
        Check.tape(x, Check.packedArchive(Check.bookFiles(Check.html("<p>" + "ab ".repeat(2500) + "</p><p id=\"i\">z</p><p id=\"e\"/>"),
            Check.html("<pre id=\"j\"><code>" + "x".repeat(23000) + "</code></pre><p id=\"k\">y</p>"),
            Check.html("<pre><code>" + "x".repeat(22000) + "</code></pre>"))));
        Check.same("read", Check.read(x), "3");
        Check.same("wide pages", x.pages(60, 80), 12);
        int[] before = {Check.find(x, 0, "i"), Check.find(x, 1, "j"), Check.find(x, 1, "k"), Check.find(x, 0, "e"),
            x.cell(1, 32, 0), x.page(1, 1)};
        boolean thrown = false;
        try {
            x.pages(60, 16);
        } catch (IllegalStateException e) {
            thrown = true;
        }
        Check.isTrue("narrow ones are too many", thrown);
        int[] behind = {Check.find(x, 0, "i"), Check.find(x, 1, "j"), Check.find(x, 1, "k"), Check.find(x, 0, "e"),
            x.cell(1, 32, 0), x.page(1, 1)};
        Check.isTrue("what was found is found still", java.util.Arrays.equals(before, behind));
        Check.same("on the second page", behind[0], 1);
        Check.same("on the third page", behind[1], 2);
        Check.same("on the seventh page", behind[2], 6);
        Check.same("on its file's last page", behind[3], 1);
        Check.same("narrower ones that are not too many", x.pages(60, 40), 24);
        Check.same("the last letter", x.cell(23, 9, 39), 'x');
        Check.same("none behind it", x.cell(23, 10, 0), 32);
        Check.same("lines of the last page", x.page(23, 1), 10);
    }

    private static BookWorks readInto(BookWorks x, String... bodies) {
        String[] documents = new String[bodies.length];
        for (int k = 0; k < bodies.length; k++) {
            documents[k] = Check.html(bodies[k]);
        }
        Check.tape(x, Check.archive(Check.bookFiles(documents)));
        Check.same("read of " + bodies[0], Check.read(x), "" + bodies.length);
        return x;
    }

    private static void pagesOfOtherBooks() {
        String heads = "<h1>x<br/>y</h1>".repeat(9);
        String lines = "<p>a<br/>b<br/>c<br/>d<br/>e<br/>f<br/>g<br/>h<br/>i<br/>j<br/>k<br/>l</p>";
        BookWorks x = new BookWorks();
        for (int turn = 0; turn < 4; turn++) {
            readInto(x, heads).pages(5, 16);
            readInto(x, lines).pages(5, 16);
            Check.same("no headings any more", Check.pages(x), "a/b/c/d/e/#f/g/h/i/j/#k/l/#");
            readInto(x, "", "<p>a</p>", "").pages(5, 16);
            Check.same("empty pages", Check.pages(x), "#a/##");
            Check.same("lines of the first", x.page(0, 1), 0);
            Check.same("lines of the last", x.page(2, 1), 0);
            Check.same("no letter", x.cell(0, 0, 0), 32);
            Check.same("no page", x.page(3, 0), -1);
            readInto(x, "<p id=\"i\">a</p>", "<p>b</p><hr/><p id=\"j\">c</p>").pages(5, 16);
            Check.same("find of i", Check.find(x, 0, "i"), 0);
            Check.same("find of j", Check.find(x, 1, "j"), 1);
        }
        readInto(x, heads, lines).pages(5, 16);
        String five = Check.pages(x);
        x.pages(60, 80);
        x.pages(5, 16);
        Check.same("laid out again", Check.pages(x), five);
    }

    /** The spine's files stand in the archive in another order. */
    private static void filesInAnotherOrder() {
        String[] bodies = {"<p id=\"a\">é&lt;\u20AC<em id=\"b\">x</em></p><ol start=\"12\"><li id=\"c\"><img src=\"\" alt=\"é&gt;\"/></li></ol>",
            "<h1 id=\"d\">&#x20AC;\uD83D\uDE00</h1>", "<p id=\"é\">z</p>"};
        int[][] orders = {{0, 1, 2}, {2, 1, 0}, {1, 2, 0}, {2, 0, 1}};
        for (int[] order : orders) {
            java.util.Map<String, byte[]> files = Check.bookFiles(Check.html(bodies[0]), Check.html(bodies[1]), Check.html(bodies[2]));
            StringBuilder items = new StringBuilder();
            StringBuilder spine = new StringBuilder();
            for (int k = 0; k < 3; k++) {
                items.append("<item id=\"i" + k + "\" href=\"d" + k + ".x\"/>");
                spine.append("<itemref idref=\"i" + order[k] + "\"/>");
            }
            files.put("o/p.opf", Check.utf8("<package><manifest>" + items + "</manifest><spine>" + spine + "</spine></package>"));
            BookWorks x = new BookWorks();
            Check.tape(x, Check.archive(files));
            Check.same("read", Check.read(x), "3");
            x.pages(5, 16);
            String[] due = {"é<\u20ACx//12. [é>]/#", "= \u20AC\uD83D\uDE00/#", "z/#"};
            Check.same("pages", Check.pages(x), due[order[0]] + due[order[1]] + due[order[2]]);
            String[][] ids = {{"a", "b", "c"}, {"d"}, {"é"}};
            for (int k = 0; k < 3; k++) {
                for (String id : ids[order[k]]) {
                    Check.same("find of " + id, Check.find(x, k, id), k);
                    Check.same("find of " + id + " in another file", Check.find(x, (k + 1) % 3, id), -1);
                }
            }
        }
    }

    private static void blocksBehindBlocks() {
        // Packed blocks: what one block's codes were, the next one's are not.
        BookWorks x = new BookWorks();
        byte[] b = new byte[6000];
        java.util.Random r = new java.util.Random(3);
        for (int k = 0; k < b.length; k++) {
            b[k] = (byte) (k < 2100 ? Math.min(250, Math.abs(r.nextGaussian()) * 9) : k < 4200 ? 100 + r.nextInt(20) : 7);
        }
        byte[] packed = Packs.model(b);
        Check.tape(x, packed);
        Check.same("unpack() of blocks", x.unpack(), b.length);
        Check.isTrue("as they were", java.util.Arrays.equals(Check.output(x), b));
    }
}
