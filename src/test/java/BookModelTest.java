import java.io.IOException;
import java.util.ArrayList;
import java.util.LinkedHashMap;
import java.util.List;
import java.util.Map;
import java.util.Random;
import java.util.TreeMap;

/** Promises 9, 10 and 14 to 18 on very many books, each put together by a plain model of THE BOOK as well. */
public final class BookModelTest {
    private static final String X = "<?xml version=\"1.0\" encoding=\"UTF-8\"?>\n";
    private static final String[] PIECES = {"# a\n", "\n\n# A b!\n", "\n\n## c\n", "\n\n### a\n", "\n\nd e\n===\n", "\n\n#\n", "\n\n###### a-1\n",
        "\n\n## *f* `g`\n", "**t** ", "**T** ", "__u v__ ", "**t\nx** ", "**&#32;** ", "*e **t** g* ", "![**t**](i) ", "[l](#a) ", "[l](#c) ",
        "[l](#a-1) ", "[l](#section) ", "[l](c1.xhtml#a) ", "[l](c2.xhtml#a) ", "[l](c2.xhtml#c) ", "[l](c3.xhtml#a) ", "[l](x#y 'z') ",
        "[l](c1.xhtml) ", "![[l](#q)](m \"n&\") ", "<ab:c&d> ", "<m@n> ", "\n\n- a\n- b\n", "\n\n- a\n\n- **t**\n", "\n\n7. a\n   > b\n", "\n\n> q\n",
        "\n\n```x y\n<&\n```\n", "\n\n    k\n", "\n\n***\n", "w ", "\u00E9&lt; ", "s  \nr ", "s\nr ", "`o` ", "\n\n", "\n\n0) z\n"};
    private static final String[] RARE = {"[l](#q) ", "[l](nav.xhtml#a) ", "[l](index.xhtml#c) ", "<b> ", "&#1; ", "[l](#) "};
    private static Random random;

    /** A heading or a strong, with its chapter. */
    private static final class Found {
        int chapter;
        int level;
        int parent = -1;
        String plain;
        String name;
        Object node;
    }

    private static List<Blocks> chapters;
    private static Map<Blocks.Block, List<Inlines.Node>> inlines;
    private static List<Found> headings;
    private static List<Found> strongs;
    private static Map<String, List<Integer>> terms;

    public static void main(String[] args) throws IOException {
        int fine = 0;
        for (int run = 0; run < 2500; run++) {
            random = new Random(run);
            String[] texts = new String[1 + random.nextInt(3)];
            for (int c = 0; c < texts.length; c++) {
                StringBuilder s = new StringBuilder();
                for (int k = random.nextInt(12); k > 0; k--) {
                    boolean rare = random.nextInt(60) == 0;
                    s.append(rare ? RARE[random.nextInt(RARE.length)] : PIECES[random.nextInt(PIECES.length)]);
                }
                texts[c] = s.toString();
            }
            BookWorks x = Check.withChapters(texts);
            String got = Check.compiled(x);
            Check.same("compile of " + String.join(" | ", texts), got, read(texts));
            if (got.equals("fine")) {
                fine++;
                answers(x);
                files(x);
            }
        }
        Check.isTrue("many books are fine: " + fine, fine > 500);
        Check.finish();
    }

    /** Reads the chapters: "fine", or the first ERROR. */
    private static String read(String[] texts) {
        chapters = new ArrayList<>();
        inlines = new LinkedHashMap<>();
        headings = new ArrayList<>();
        strongs = new ArrayList<>();
        for (int c = 0; c < texts.length; c++) {
            Blocks blocks = new Blocks(texts[c]);
            chapters.add(blocks);
            List<Blocks.Block> leaves = new ArrayList<>();
            leavesOf(blocks.document, leaves);
            for (int k = 0; k < leaves.size(); k++) {
                Inlines leaf = new Inlines(leaves.get(k).text, blocks.definitions);
                inlines.put(leaves.get(k), leaf.nodes());
                if (leaf.error != 0) {
                    return leaf.error + " " + c + " " + k;
                }
            }
        }
        collect();
        for (int c = 0; c < texts.length; c++) {
            List<Blocks.Block> leaves = new ArrayList<>();
            leavesOf(chapters.get(c).document, leaves);
            for (int k = 0; k < leaves.size(); k++) {
                if (!leadOn(inlines.get(leaves.get(k)), c)) {
                    return "4 " + c + " " + k;
                }
            }
        }
        return "fine";
    }

    private static void leavesOf(Blocks.Block b, List<Blocks.Block> into) {
        if (b.is("par", "head")) {
            into.add(b);
        }
        for (Blocks.Block one : b.held) {
            leavesOf(one, into);
        }
    }

    private static String plain(List<Inlines.Node> nodes) {
        StringBuilder s = new StringBuilder();
        for (Inlines.Node n : nodes) {
            s.append(n.kind.equals("soft") || n.kind.equals("hard") ? " " : n.kind.equals("text") || n.kind.equals("coding") ? n.text
                : plain(n.held));
        }
        return s.toString();
    }

    private static String small(String s) {
        StringBuilder b = new StringBuilder();
        s.codePoints().forEach(c -> b.appendCodePoint(c >= 'A' && c <= 'Z' ? c + 32 : c));
        return b.toString();
    }

    private static void collect() {
        for (int c = 0; c < chapters.size(); c++) {
            List<Blocks.Block> leaves = new ArrayList<>();
            leavesOf(chapters.get(c).document, leaves);
            for (Blocks.Block b : leaves) {
                if (b.kind.equals("head")) {
                    addHeading(c, b);
                }
                addStrongs(c, inlines.get(b));
            }
        }
        terms = new TreeMap<>((a, b) -> small(a).equals(small(b)) ? a.compareTo(b) : small(a).compareTo(small(b)));
        for (int s = 0; s < strongs.size(); s++) {
            String term = strongs.get(s).plain.replaceAll("[\t\n\r ]+", " ").replaceAll("^ | $", "");
            term = term.length() > 60 ? term.substring(0, 60) : term;
            if (!term.isEmpty()) {
                terms.computeIfAbsent(term, k -> new ArrayList<>()).add(s);
            }
        }
    }

    private static void addHeading(int c, Blocks.Block b) {
        Found h = new Found();
        h.chapter = c;
        h.level = b.value;
        h.plain = plain(inlines.get(b));
        h.node = b;
        String name = small(h.plain).replaceAll("[ \n]", "-").replaceAll("[\\x00-\\x2c\\x2e\\x2f\\x3a-\\x5e\\x60\\x7b-\\x7f]", "");
        name = name.isEmpty() ? "section" : name.length() > 60 ? name.substring(0, 60) : name;
        String own = name;
        for (int k = 1; named(own) != null; k++) {
            own = name + "-" + k;
        }
        h.name = own;
        for (int k = 0; k < headings.size(); k++) {
            h.parent = headings.get(k).level < h.level ? k : h.parent;
        }
        headings.add(h);
    }

    private static Found named(String name) {
        for (Found h : headings) {
            if (h.name.equals(name)) {
                return h;
            }
        }
        return null;
    }

    private static void addStrongs(int c, List<Inlines.Node> nodes) {
        for (Inlines.Node n : nodes) {
            if (n.kind.equals("strong")) {
                Found s = new Found();
                s.chapter = c;
                s.plain = plain(n.held);
                s.node = n;
                strongs.add(s);
            }
            if (!n.kind.equals("image")) {
                addStrongs(c, n.held);
            }
        }
    }

    private static boolean leadOn(List<Inlines.Node> nodes, int c) {
        for (Inlines.Node n : nodes) {
            if (n.kind.equals("image")) {
                continue;
            }
            if (n.kind.equals("link") && n.target.contains("#")) {
                String file = n.target.substring(0, n.target.indexOf('#'));
                Found h = named(n.target.substring(file.length() + 1));
                if (file.isEmpty()) {
                    if (h == null) {
                        return false;
                    }
                    n.target = h.chapter == c ? n.target : "c" + (h.chapter + 1) + ".xhtml" + n.target;
                }
                for (int k = 0; k < chapters.size(); k++) {
                    if (file.equals("c" + (k + 1) + ".xhtml") && (h == null || h.chapter != k)) {
                        return false;
                    }
                }
                if (file.equals("nav.xhtml") || file.equals("index.xhtml")) {
                    return false;
                }
            }
            if (!leadOn(n.held, c)) {
                return false;
            }
        }
        return true;
    }

    private static void answers(BookWorks x) {
        Check.same("headings", x.about(3), headings.size());
        Check.same("strongs", x.about(4), strongs.size());
        Check.same("terms", x.about(5), terms.size());
        for (int h = 0; h < headings.size(); h++) {
            Found f = headings.get(h);
            Check.same("heading " + h, x.heading(h, 0) + " " + x.heading(h, 1) + " " + x.heading(h, 2) + " " + Check.nameOf(x, h),
                f.chapter + " " + f.level + " " + f.parent + " " + f.name);
            Check.same("its node", x.node(f.chapter, x.heading(h, 3), 0), 5);
        }
        int k = 0;
        for (Map.Entry<String, List<Integer>> e : terms.entrySet()) {
            StringBuilder got = new StringBuilder(Check.termOf(x, k));
            for (int n = 0; n < x.term(k, 1); n++) {
                got.append(' ').append(x.term(k, n + 2));
            }
            StringBuilder due = new StringBuilder(e.getKey());
            e.getValue().forEach(s -> due.append(' ').append(s));
            Check.same("term " + k, got.toString(), due.toString());
            k++;
        }
    }

    private static String told(String s) {
        return s.replace("&", "&amp;").replace("<", "&lt;").replace(">", "&gt;").replace("\"", "&quot;");
    }

    private static void files(BookWorks x) throws IOException {
        Map<String, String> due = new LinkedHashMap<>();
        String title = headings.isEmpty() ? "Untitled" : told(headings.get(0).plain);
        String head = X + "<html><head><title>" + title + "</title></head><body>\n";
        String tail = "</body></html>\n";
        due.put("mimetype", "application/epub+zip");
        due.put("META-INF/container.xml", X + "<container version=\"1.0\"><rootfiles><rootfile full-path=\"OEBPS/content.opf\"/>"
            + "</rootfiles></container>\n");
        StringBuilder items = new StringBuilder();
        StringBuilder spine = new StringBuilder();
        for (int k = 0; k < chapters.size() + 2; k++) {
            String name = k == 0 ? "nav" : k > chapters.size() ? "index" : "c" + k;
            items.append("<item id=\"f" + k + "\" href=\"" + name + ".xhtml\"/>\n");
            spine.append("<itemref idref=\"f" + k + "\"/>\n");
        }
        due.put("OEBPS/content.opf", X + "<package version=\"3.0\"><metadata><title>" + title + "</title></metadata><manifest>\n"
            + items + "</manifest><spine>\n" + spine + "</spine></package>\n");
        due.put("OEBPS/nav.xhtml", head + "<h1>Contents</h1>\n" + (headings.isEmpty() ? "" : level(-1)) + tail);
        for (int c = 0; c < chapters.size(); c++) {
            due.put("OEBPS/c" + (c + 1) + ".xhtml", head + written(chapters.get(c).document.held, false) + tail);
        }
        due.put("OEBPS/index.xhtml", head + "<h1>Index</h1>\n" + (terms.isEmpty() ? "" : "<ul>\n" + index() + "</ul>\n") + tail);
        Map<String, String> got = Check.files(Check.output(x));
        Check.same("names of files", got.keySet().toString(), due.keySet().toString());
        Map<String, byte[]> bytes = new LinkedHashMap<>();
        for (String name : due.keySet()) {
            Check.same(name, got.get(name), due.get(name));
            bytes.put(name, Check.utf8(due.get(name)));
        }
        Check.isTrue("all bytes", java.util.Arrays.equals(Check.output(x), Check.packedArchive(bytes)));
        x.take();
        Check.same("read()", Check.read(x), "" + (chapters.size() + 2));
    }

    private static String level(int parent) {
        StringBuilder s = new StringBuilder("<ul>\n");
        for (int h = 0; h < headings.size(); h++) {
            Found f = headings.get(h);
            if (f.parent != parent) {
                continue;
            }
            s.append("<li><a href=\"c" + (f.chapter + 1) + ".xhtml#" + f.name + "\">" + told(f.plain) + "</a>");
            int own = h;
            s.append(headings.stream().anyMatch(g -> g.parent == own) ? "\n" + level(h) : "");
            s.append("</li>\n");
        }
        return s + "</ul>\n";
    }

    private static String index() {
        StringBuilder s = new StringBuilder();
        for (Map.Entry<String, List<Integer>> e : terms.entrySet()) {
            String gap = " ";
            s.append("<li>" + told(e.getKey()));
            for (int k : e.getValue()) {
                int c = strongs.get(k).chapter + 1;
                s.append(gap + "<a href=\"c" + c + ".xhtml#t:" + k + "\">" + c + "</a>");
                gap = ", ";
            }
            s.append("</li>\n");
        }
        return s.toString();
    }

    private static String written(List<Blocks.Block> blocks, boolean tight) {
        StringBuilder s = new StringBuilder();
        for (Blocks.Block b : blocks) {
            switch (b.kind) {
                case "par":
                    s.append(tight ? inline(inlines.get(b)) + "\n" : "<p>" + inline(inlines.get(b)) + "</p>\n");
                    break;
                case "head":
                    String name = headings.stream().filter(h -> h.node == b).findFirst().get().name;
                    s.append("<h" + b.value + " id=\"" + name + "\">" + inline(inlines.get(b)) + "</h" + b.value + ">\n");
                    break;
                case "rule":
                    s.append("<hr/>\n");
                    break;
                case "code":
                    String word = Blocks.unescaped(b.info.split(" ")[0], false);
                    s.append("<pre><code" + (b.info.isEmpty() ? "" : " class=\"language-" + told(word) + "\"") + ">" + told(b.text)
                        + "</code></pre>\n");
                    break;
                case "quote":
                    s.append("<blockquote>\n" + written(b.held, false) + "</blockquote>\n");
                    break;
                case "list":
                    boolean digits = b.sign == '.' || b.sign == ')';
                    s.append(!digits ? "<ul>\n" : b.value == 1 ? "<ol>\n" : "<ol start=\"" + b.value + "\">\n");
                    for (Blocks.Block item : b.held) {
                        s.append("<li>" + written(item.held, !b.isLoose()) + "</li>\n");
                    }
                    s.append(digits ? "</ol>\n" : "</ul>\n");
                    break;
                default:
                    break;
            }
        }
        return s.toString();
    }

    private static String inline(List<Inlines.Node> nodes) {
        StringBuilder s = new StringBuilder();
        for (Inlines.Node n : nodes) {
            String title = n.title.isEmpty() ? "" : " title=\"" + told(n.title) + "\"";
            switch (n.kind) {
                case "text":
                    s.append(told(n.text));
                    break;
                case "soft":
                    s.append("\n");
                    break;
                case "hard":
                    s.append("<br/>\n");
                    break;
                case "coding":
                    s.append("<code>" + told(n.text) + "</code>");
                    break;
                case "em":
                    s.append("<em>" + inline(n.held) + "</em>");
                    break;
                case "strong":
                    int number = 0;
                    while (strongs.get(number).node != n) {
                        number++;
                    }
                    s.append("<strong id=\"t:" + number + "\">" + inline(n.held) + "</strong>");
                    break;
                case "link":
                    s.append("<a href=\"" + told(n.target) + "\"" + title + ">" + inline(n.held) + "</a>");
                    break;
                default:
                    s.append("<img src=\"" + told(n.target) + "\" alt=\"" + told(plain(n.held)) + "\"" + title + "/>");
                    break;
            }
        }
        return s.toString();
    }
}
