import java.util.ArrayList;
import java.util.List;
import java.util.Random;

/** Promises 26 to 29 on very many documents, each laid out by a plain model of PAGES as well. */
public final class PagesModelTest {
    private static final String[] WORDS = {"a", "bb", "ccc", "dddddd", "eeeeeeeeeeeeeeeeee", " ", " ", "  ", "\n", "f", "\t", "g h"};
    private static final String[] BLOCKS = {"p", "p", "p", "h1", "h3", "hr", "pre", "blockquote", "ul", "ol"};
    private static final String[] INLINES = {"em", "strong", "a", "code", "br", "br", "img"};
    private static Random random;
    private static int ids;
    private static int leaves;

    /** A line: its text, the number of the leaf it belongs to (-1 between blocks), how many lines its heading has. */
    private static final class Line {
        String text;
        int leaf;
        int heading;
        int page = -1;

        Line(String text, int leaf) {
            this.text = text;
            this.leaf = leaf;
        }
    }

    public static void main(String[] args) {
        for (int run = 0; run < 3000; run++) {
            random = new Random(run);
            ids = 0;
            int rows = 5 + random.nextInt(random.nextInt(4) == 0 ? 56 : 6);
            int columns = 16 + random.nextInt(random.nextInt(4) == 0 ? 65 : 5);
            compare(rows, columns, document(), document());
        }
        Check.finish();
    }

    private static String document() {
        StringBuilder body = new StringBuilder();
        for (int k = random.nextInt(7); k > 0; k--) {
            body.append(block(0));
        }
        return Check.html(body.toString());
    }

    private static String id() {
        ids++;
        return random.nextInt(3) == 0 ? " id=\"i" + ids + "\"" : "";
    }

    private static String words(int depth) {
        StringBuilder s = new StringBuilder();
        for (int k = random.nextInt(6); k > 0; k--) {
            s.append(random.nextInt(4) == 0 && depth < 3 ? inline(depth) : WORDS[random.nextInt(WORDS.length)]);
        }
        return s.toString();
    }

    private static String inline(int depth) {
        String name = INLINES[random.nextInt(INLINES.length)];
        if (name.equals("br")) {
            return "<br" + id() + "/>";
        }
        if (name.equals("img")) {
            return "<img src=\"\" alt=\"" + WORDS[random.nextInt(WORDS.length)] + "\"" + id() + "/>";
        }
        if (name.equals("a")) {
            return depth > 0 ? "" : "<a href=\"x\"" + id() + ">" + words(3) + "</a>";
        }
        return "<" + name + id() + ">" + (name.equals("code") ? words(3) : words(depth + 1)) + "</" + name + ">";
    }

    private static String block(int depth) {
        String name = BLOCKS[random.nextInt(BLOCKS.length)];
        String start = "<" + name + id();
        switch (name) {
            case "hr":
                return start + "/>";
            case "pre":
                StringBuilder text = new StringBuilder();
                for (int k = random.nextInt(6); k > 0; k--) {
                    text.append(random.nextInt(3) == 0 ? "\n" : WORDS[random.nextInt(WORDS.length)]);
                }
                return start + "><code" + id() + ">" + text + "</code></pre>";
            case "blockquote":
                return start + ">" + blocks(depth) + "</blockquote>";
            case "ul":
            case "ol":
                StringBuilder items = new StringBuilder(name.equals("ol") && random.nextBoolean() ? " start=\"" + random.nextInt(120) + "\">" : ">");
                for (int k = random.nextInt(4); k > 0; k--) {
                    items.append("<li" + id() + ">");
                    for (int j = random.nextInt(4); j > 0; j--) {
                        items.append(random.nextInt(3) == 0 && depth < 4 ? block(depth + 1) : words(0));
                    }
                    items.append("</li>");
                }
                return start + items + "</" + name + ">";
            default:
                return start + ">" + words(0) + "</" + name + ">";
        }
    }

    private static String blocks(int depth) {
        StringBuilder s = new StringBuilder();
        for (int k = depth < 5 ? random.nextInt(4) : 0; k > 0; k--) {
            s.append(block(depth + 1));
        }
        return s.toString();
    }

    // The model.

    private static boolean isBlock(Object o) {
        return o instanceof Xmls.Element && " p h1 h2 h3 h4 h5 h6 hr pre blockquote ul ol ".contains(" " + ((Xmls.Element) o).name + " ");
    }

    /** The characters of inlines: WHITE as 32, ends of lines as 10. */
    private static void characters(List<Object> content, StringBuilder into) {
        for (Object o : content) {
            if (o instanceof Integer) {
                int c = (Integer) o;
                into.appendCodePoint(Xmls.isWhite(c) ? 32 : c);
                continue;
            }
            Xmls.Element e = (Xmls.Element) o;
            if (e.name.equals("br")) {
                into.append('\n');
            } else if (e.name.equals("img")) {
                into.append('[').append(e.value("alt").replaceAll("[\t\n\r ]", " ")).append(']');
            } else {
                characters(e.content, into);
            }
        }
    }

    private static List<Line> wordLines(String text, int width, int leaf) {
        List<Line> lines = new ArrayList<>();
        String[] parts = text.split("\n", -1);
        for (int k = 0; k < parts.length; k++) {
            String line = "";
            for (String word : parts[k].trim().isEmpty() ? new String[0] : parts[k].trim().split(" +")) {
                if (word.length() > width && !line.isEmpty()) {
                    lines.add(new Line(line, leaf));
                    line = "";
                }
                while (word.length() > width) {
                    lines.add(new Line(word.substring(0, width), leaf));
                    word = word.substring(width);
                }
                if (!line.isEmpty() && line.length() + 1 + word.length() > width) {
                    lines.add(new Line(line, leaf));
                    line = "";
                }
                line += line.isEmpty() ? word : " " + word;
            }
            if (k < parts.length - 1 || !line.isEmpty()) {
                lines.add(new Line(line, leaf));
            }
        }
        return lines;
    }

    private static List<Line> leafLines(Xmls.Element e, int width, int leaf) {
        StringBuilder text = new StringBuilder();
        if (e.name.equals("hr")) {
            text.append("-".repeat(width));
        } else if (e.name.equals("pre")) {
            List<Line> lines = new ArrayList<>();
            for (Object o : e.held.get(0).content) {
                text.appendCodePoint((Integer) o);
            }
            String[] parts = text.toString().split("\n", -1);
            for (int k = 0; k < parts.length; k++) {
                String rest = parts[k];
                for (; rest.length() > width; rest = rest.substring(width)) {
                    lines.add(new Line(rest.substring(0, width), leaf));
                }
                if (!rest.isEmpty() || k < parts.length - 1) {
                    lines.add(new Line(rest, leaf));
                }
            }
            return lines;
        } else {
            text.append(e.name.charAt(0) == 'h' ? "=".repeat(e.name.charAt(1) - '0') + " " : "");
            characters(e.content, text);
        }
        List<Line> lines = wordLines(text.toString(), width, leaf);
        if (e.name.matches("h[1-6]")) {
            lines.get(0).heading = lines.size();
        }
        return lines;
    }

    private static List<Line> layBlock(Xmls.Element e, int width) {
        List<Line> lines = new ArrayList<>();
        switch (e.name) {
            case "blockquote":
                for (Line line : layBlocks(e.content, Math.max(4, width - 2), true)) {
                    line.text = "> " + line.text;
                    lines.add(line);
                }
                return lines;
            case "ul":
            case "ol":
                boolean spaced = false;
                List<Xmls.Element> items = e.held;
                List<List<Line>> all = new ArrayList<>();
                String start = e.value("start");
                int number = start == null ? 1 : Integer.parseInt(start);
                for (Xmls.Element item : items) {
                    String sign = e.name.equals("ul") ? "* " : number++ + ". ";
                    all.add(layItem(item, sign, Math.max(4, width - sign.length())));
                    spaced = spaced || holdsParagraph(item);
                }
                return joined(all, spaced);
            default:
                return leafLines(e, width, leaves++);
        }
    }

    /** Whether a p with lines is held directly. */
    private static boolean holdsParagraph(Xmls.Element item) {
        for (Xmls.Element e : item.held) {
            if (e.name.equals("p") && !leafLines(e, 16, 0).isEmpty()) {
                return true;
            }
        }
        return false;
    }

    private static List<Line> joined(List<List<Line>> all, boolean spaced) {
        List<Line> lines = new ArrayList<>();
        for (List<Line> some : all) {
            if (!some.isEmpty() && !lines.isEmpty() && spaced) {
                lines.add(new Line("", -1));
            }
            lines.addAll(some);
        }
        return lines;
    }

    private static List<Line> layBlocks(List<Object> content, int width, boolean spaced) {
        List<List<Line>> all = new ArrayList<>();
        List<Object> row = new ArrayList<>();
        for (Object o : content) {
            if (isBlock(o)) {
                all.add(layRow(row, width));
                row.clear();
                all.add(layBlock((Xmls.Element) o, width));
            } else {
                row.add(o);
            }
        }
        all.add(layRow(row, width));
        return joined(all, spaced);
    }

    private static List<Line> layRow(List<Object> row, int width) {
        StringBuilder text = new StringBuilder();
        characters(row, text);
        return wordLines(text.toString(), width, leaves++);
    }

    private static List<Line> layItem(Xmls.Element item, String sign, int width) {
        List<Line> lines = layBlocks(item.content, width, holdsParagraph(item));
        if (lines.isEmpty()) {
            lines.add(new Line("", leaves++));
        }
        for (int k = 0; k < lines.size(); k++) {
            lines.get(k).text = (k == 0 ? sign : " ".repeat(sign.length())) + lines.get(k).text;
        }
        return lines;
    }

    private static Xmls.Element bodyOf(List<Xmls.Element> all) {
        for (Xmls.Element e : all) {
            if (e.name.equals("body")) {
                return e;
            }
        }
        return null;
    }

    private static void compare(int rows, int columns, String... documents) {
        BookWorks x = new BookWorks();
        Check.tape(x, Check.packedArchive(Check.bookFiles(documents)));
        Check.same("read of " + documents[0], Check.read(x), "" + documents.length);
        x.pages(rows, columns);
        StringBuilder due = new StringBuilder();
        int pages = 0;
        for (int f = 0; f < documents.length; f++) {
            Xmls.parse(Check.utf8(documents[f]));
            List<Xmls.Element> all = Xmls.all;
            leaves = 0;
            List<Line> lines = layBlocks(bodyOf(all).content, columns, true);
            List<String> sheets = fill(lines, rows, columns, pages);
            pages += sheets.size();
            finds(x, f, all, lines, pages - 1);
            for (String sheet : sheets) {
                due.append(sheet).append('#');
            }
        }
        Check.same("pages of " + rows + " and " + columns + " of " + String.join(" and ", documents), Check.pages(x), due.toString());
    }

    /** Puts a file's lines on pages, numbered from a number on: the pages' lines, each with / behind. */
    private static List<String> fill(List<Line> lines, int rows, int columns, int from) {
        List<String> sheets = new ArrayList<>();
        int used = 0;
        for (Line line : lines) {
            line.text = line.text.replaceAll(" +$", "");
        }
        for (int k = 0; k < lines.size(); k++) {
            Line line = lines.get(k);
            used = used == rows || used > 0 && endsPage(lines, k, rows, rows - used) ? 0 : used;
            if (used == 0 && line.text.isEmpty()) {
                continue;
            }
            if (used == 0) {
                sheets.add("");
            }
            used++;
            int last = sheets.size() - 1;
            line.page = from + last;
            String seen = line.text.substring(0, Math.min(columns, line.text.length()));
            sheets.set(last, sheets.get(last) + seen.replaceAll(" +$", "") + "/");
        }
        if (sheets.isEmpty()) {
            sheets.add("");
        }
        return sheets;
    }

    private static boolean endsPage(List<Line> lines, int k, int rows, int left) {
        int behind = k + lines.get(k).heading;
        while (behind < lines.size() && lines.get(behind).text.isEmpty()) {
            behind++;
        }
        int need = Math.min(behind + 1, lines.size()) - k;
        return lines.get(k).heading > 0 && need <= rows && need > left;
    }

    private static void finds(BookWorks x, int f, List<Xmls.Element> all, List<Line> lines, int last) {
        for (Xmls.Element e : all) {
            if (e.value("id") == null) {
                continue;
            }
            int due = last;
            int leaf = LeafNumbers.of(e, bodyOf(all));
            for (int k = lines.size() - 1; k >= 0; k--) {
                due = lines.get(k).leaf >= leaf && lines.get(k).page >= 0 ? lines.get(k).page : due;
            }
            Check.same("find of " + e.value("id"), Check.find(x, f, e.value("id")), due);
        }
    }

    /** Numbers of leaves, counted just as the lines were made. */
    private static final class LeafNumbers {
        private int next;
        private int found = -1;

        static int of(Xmls.Element e, Xmls.Element body) {
            LeafNumbers n = new LeafNumbers();
            n.row(body.content, e);
            return n.found < 0 ? Integer.MAX_VALUE : n.found;
        }

        private void row(List<Object> content, Xmls.Element e) {
            for (Object o : content) {
                if (isBlock(o)) {
                    next++;
                    block((Xmls.Element) o, e);
                } else if (o instanceof Xmls.Element && isIn(e, (Xmls.Element) o)) {
                    found = next;
                }
            }
            next++;
        }

        private void block(Xmls.Element b, Xmls.Element e) {
            if (b == e) {
                found = next;
            }
            if (b.name.equals("blockquote")) {
                row(b.content, e);
            } else if (b.name.equals("ul") || b.name.equals("ol")) {
                for (Xmls.Element item : b.held) {
                    item(item, e);
                }
            } else {
                found = found < 0 && isIn(e, b) ? next : found;
                next++;
            }
        }

        private void item(Xmls.Element item, Xmls.Element e) {
            if (item == e) {
                found = next;
            }
            row(item.content, e);
            int kept = leaves;
            boolean none = layBlocks(item.content, 16, false).isEmpty();
            leaves = kept;
            next += none ? 1 : 0;
        }

        private static boolean isIn(Xmls.Element e, Xmls.Element holder) {
            for (Xmls.Element up = e; up != null; up = up.holder) {
                if (up == holder) {
                    return true;
                }
            }
            return false;
        }
    }
}
