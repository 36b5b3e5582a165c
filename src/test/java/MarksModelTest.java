import java.util.List;
import java.util.Random;

/** Promises 9 to 13 on very many chapters, each read by a plain model of BLOCKS and INLINES as well. */
public final class MarksModelTest {
    private static final String[] PIECES = {"a", "b", "c ", "d", " ", " ", "  ", "    ", "\n", "\n", "\n", "\n\n", "> ", ">", "- ", "-", "* ",
        "+ ", "1. ", "2) ", "10. ", "# ", "## ", "#", "```", "```\n", "~~~", "===\n", "---\n", "***\n", "_ _ _", "\t", "*", "**", "_", "__",
        "`", "``", "[x]", "[x]: y\n", "[x]: <y z> 't'\n", "[", "]", "(", ")", "](", "](y)", "![", "!", "\\", "\\\n", "  \n", "&amp;",
        "&#65;", "&#x1F;", "&", ";", "<ab:c>", "<d@e>", "<", ">", "\"", "'", ".", "\u00A0", "\u00E9", "\u2026", "[X]: z", "[][x]", "[]", ":",
        "\r", "\r\n", "=", "~", "\u007F", "***", "]: ", "\n    ", "\n  ", "\n> ", "\n- "};
    private static final String[] MARKS = {"*", "**", "***", "_", "__", "a", "b ", " c", ".", "[", "](y)", "`", "\\", "![", "]", "(", ")",
        "[x]", "\u00A0", "\n", "  \n", "<ab:c>", "é", "!", "[]", "''", "](y 'z')", "&quot;"};
    private static Random random;

    public static void main(String[] args) {
        for (int run = 0; run < 4000; run++) {
            random = new Random(run);
            compare(text(PIECES, 30, ""));
            compare(text(MARKS, 16, "[x]: u 'v'\n\n"));
            compare(lines());
        }
        Check.finish();
    }

    private static String text(String[] pieces, int most, String start) {
        StringBuilder s = new StringBuilder(start);
        for (int k = random.nextInt(most); k > 0; k--) {
            s.append(pieces[random.nextInt(pieces.length)]);
        }
        return s.toString();
    }

    /** Lines that begin with spaces and marks, and go on with few words. */
    private static String lines() {
        StringBuilder s = new StringBuilder();
        String[] marks = {"> ", ">", "- ", "+ ", "1. ", "12) ", "   ", "  ", " ", "    ", "\t", "-", "# ", "```", "~~~", "[x]: y", "***", "---",
            "===", "-   ", "-     "};
        String[] words = {"a", "b c", "", "", "[x]", "[y]: z", "'t'", "```", "- d", "e  ", "> f"};
        for (int k = 1 + random.nextInt(8); k > 0; k--) {
            for (int j = random.nextInt(5); j > 0; j--) {
                s.append(marks[random.nextInt(marks.length)]);
            }
            s.append(words[random.nextInt(words.length)]).append('\n');
        }
        return s.toString();
    }

    private static void compare(String chapter) {
        BookWorks x = Check.withChapters(chapter);
        String got = Check.compiled(x);
        if (got.startsWith("4 ") || got.startsWith("6 ")) {
            return;
        }
        got = got.equals("fine") ? Check.tree(x, 0) : got;
        Check.same("tree of " + chapter, got, modelled(chapter));
    }

    private static int strongs;
    private static int leaf;
    private static String error;

    private static String modelled(String chapter) {
        Blocks blocks = new Blocks(chapter);
        if (blocks.tooDeep >= 0) {
            return "5 0 " + blocks.tooDeep;
        }
        strongs = 0;
        leaf = 0;
        error = "";
        StringBuilder s = new StringBuilder();
        for (Blocks.Block b : blocks.document.held) {
            tell(b, blocks, s);
        }
        return error.isEmpty() ? s.toString() : error;
    }

    private static void gap(StringBuilder s) {
        s.append(s.length() == 0 || s.charAt(s.length() - 1) == '(' ? "" : " ");
    }

    private static void tell(Blocks.Block b, Blocks blocks, StringBuilder s) {
        gap(s);
        s.append(b.kind).append(b.kind.equals("head") || b.kind.equals("list") ? "" + b.value : "");
        s.append(b.kind.equals("list") && b.isLoose() ? "loose" : "");
        if (b.kind.equals("code")) {
            s.append("|" + b.text + "|").append(b.info.isEmpty() ? "" : "'" + b.info + "'");
            return;
        }
        StringBuilder inside = new StringBuilder();
        if (b.is("par", "head")) {
            Inlines inlines = new Inlines(b.text, blocks.definitions);
            List<Inlines.Node> nodes = inlines.nodes();
            if (inlines.error != 0 && error.isEmpty()) {
                error = inlines.error + " 0 " + leaf;
            }
            leaf++;
            for (Inlines.Node n : nodes) {
                tell(n, false, inside);
            }
        }
        for (Blocks.Block one : b.held) {
            tell(one, blocks, inside);
        }
        s.append(inside.length() == 0 ? "" : "(" + inside + ")");
    }

    private static void tell(Inlines.Node n, boolean inImage, StringBuilder s) {
        gap(s);
        s.append(n.kind.equals("text") ? "" : n.kind);
        s.append(n.kind.equals("strong") ? "" + (inImage ? -1 : strongs++) : "");
        boolean link = n.kind.equals("link") || n.kind.equals("image");
        s.append(link ? "|" + n.target + "|" : n.kind.equals("text") || n.kind.equals("coding") ? "|" + n.text + "|" : "");
        s.append(n.title.isEmpty() ? "" : "'" + n.title + "'");
        StringBuilder inside = new StringBuilder();
        for (Inlines.Node one : n.held) {
            tell(one, inImage || n.kind.equals("image"), inside);
        }
        s.append(inside.length() == 0 ? "" : "(" + inside + ")");
    }
}
