import java.util.ArrayList;
import java.util.HashMap;
import java.util.List;
import java.util.Map;

/** A plain model of BLOCKS and DEFINITIONS, sentence by sentence, for the test that compares the program with it. */
final class Blocks {
    static final String POINTS = "!\"#$%&'()*+,-./:;<=>?@[\\]^_`{|}~";

    /** A block; what has gone away is held no more. */
    static final class Block {
        final String kind;
        Block holder;
        final List<Block> held = new ArrayList<>();
        final int first;
        int last;
        boolean open = true;
        int value;
        char sign;
        int width;
        int indent;
        final List<String> lines = new ArrayList<>();
        String text = "";
        String info = "";

        Block(String kind, Block holder, int line) {
            this.kind = kind;
            this.holder = holder;
            first = line;
            last = line;
        }

        boolean is(String... kinds) {
            return List.of(kinds).contains(kind);
        }

        int deep() {
            return (holder == null ? 0 : holder.deep()) + (is("quote", "list", "item") ? 1 : 0);
        }

        /** LAST, as the document tells it. */
        int end() {
            int most = last;
            for (Block b : held) {
                most = Math.max(most, b.end());
            }
            return is("quote", "list", "item") ? Math.max(most, first) : last;
        }

        boolean isLoose() {
            for (int k = 0; k < held.size(); k++) {
                if (k > 0 && held.get(k).first - held.get(k - 1).end() > 1) {
                    return true;
                }
                List<Block> inside = held.get(k).held;
                for (int j = 1; j < inside.size(); j++) {
                    if (inside.get(j).first - inside.get(j - 1).end() > 1) {
                        return true;
                    }
                }
            }
            return false;
        }
    }

    final Map<String, String[]> definitions = new HashMap<>();
    final Block document = new Block("doc", null, 0);
    int tooDeep = -1;
    private int number;
    private String line;
    private int place;
    private Block hand;
    private boolean begun;

    Blocks(String text) {
        List<String> lines = new ArrayList<>(List.of(text.split("\r\n|\r|\n", -1)));
        if (lines.get(lines.size() - 1).isEmpty()) {
            lines.remove(lines.size() - 1);
        }
        for (number = 0; number < lines.size() && tooDeep < 0; number++) {
            StringBuilder s = new StringBuilder();
            for (char c : lines.get(number).toCharArray()) {
                s.append(c == '\t' ? " ".repeat(4 - s.length() % 4) : "" + c);
            }
            line = s.toString();
            readLine();
        }
        close(document);
    }

    private int spaces() {
        int n = 0;
        while (place + n < line.length() && line.charAt(place + n) == ' ') {
            n++;
        }
        return n;
    }

    private String rest() {
        return line.substring(place);
    }

    private String behindSpaces() {
        return line.substring(place + spaces());
    }

    private boolean isBlank() {
        return behindSpaces().isEmpty();
    }

    private Block tip() {
        Block b = document;
        while (openIn(b) != null) {
            b = openIn(b);
        }
        return b;
    }

    private static Block openIn(Block b) {
        Block last = b.held.isEmpty() ? null : b.held.get(b.held.size() - 1);
        return last != null && last.open ? last : null;
    }

    private void readLine() {
        place = 0;
        begun = false;
        hand = document;
        while (openIn(hand) != null) {
            Block b = openIn(hand);
            if (b.kind.equals("code") && b.sign != 0 && spaces() < 4 && behindSpaces().matches(fence(b) + " *")) {
                b.last = number;
                close(b);
                return;
            }
            if (!goesOn(b)) {
                break;
            }
            hand = b;
        }
        while (!hand.kind.equals("code") && tooDeep < 0) {
            int step = beginning();
            if (step == 0) {
                break;
            }
            if (step == 2) {
                return;
            }
        }
        if (tooDeep < 0) {
            takeRest();
        }
    }

    private static String fence(Block b) {
        return (b.sign == '`' ? "`" : "~") + "{" + b.width + ",}";
    }

    private boolean goesOn(Block b) {
        switch (b.kind) {
            case "quote":
                return spaces() < 4 && takeQuote();
            case "list":
                return true;
            case "item":
                if (isBlank()) {
                    place = line.length();
                    return !b.held.isEmpty();
                }
                if (spaces() < b.width) {
                    return false;
                }
                place += b.width;
                return true;
            case "par":
                return !isBlank();
            case "code":
                if (b.sign != 0) {
                    place += Math.min(spaces(), b.indent);
                    return true;
                }
                if (spaces() >= 4 || isBlank()) {
                    place += Math.min(4, spaces());
                    return true;
                }
                return false;
            default:
                return false;
        }
    }

    private boolean takeQuote() {
        if (!behindSpaces().startsWith(">")) {
            return false;
        }
        place += spaces() + 1;
        place += rest().startsWith(" ") ? 1 : 0;
        return true;
    }

    private void close(Block b) {
        if (!b.open) {
            return;
        }
        b.open = false;
        for (Block one : new ArrayList<>(b.held)) {
            close(one);
        }
        if (b.kind.equals("par")) {
            b.text = takeDefinitions(String.join("\n", b.lines)).replaceAll(" +$", "");
            if (b.text.isEmpty()) {
                b.holder.held.remove(b);
            }
        }
        if (b.kind.equals("code")) {
            List<String> lines = new ArrayList<>(b.lines);
            while (b.sign == 0 && !lines.isEmpty() && lines.get(lines.size() - 1).trim().isEmpty()) {
                lines.remove(lines.size() - 1);
            }
            for (String one : lines) {
                b.text += one + "\n";
            }
        }
    }

    private Block begin(String kind) {
        if (openIn(hand) != null) {
            close(openIn(hand));
        }
        if (hand.kind.equals("par")) {
            close(hand);
            hand = hand.holder;
        }
        if (!kind.equals("item") && hand.kind.equals("list")) {
            close(hand);
            hand = hand.holder;
        }
        Block b = new Block(kind, hand, number);
        tooDeep = b.is("quote", "list", "item") && b.deep() > 12 ? number : -1;
        hand.held.add(b);
        if (b.is("head", "rule")) {
            b.open = false;
        } else {
            hand = b;
        }
        begun = true;
        return b;
    }

    /** 0: nothing begins; 1: it is looked for beginnings again; 2: the line is done. */
    private int beginning() {
        String s = behindSpaces();
        if (spaces() > 3) {
            if (!s.isEmpty() && !(begun ? hand : tip()).kind.equals("par")) {
                begin("code");
                place += 4;
            }
            return 0;
        }
        int indent = spaces();
        if (s.startsWith(">")) {
            takeQuote();
            begin("quote");
            return 1;
        }
        if (s.matches("#{1,6}( .*)?")) {
            String text = s.replaceAll("^#+", "").trim();
            Block b = begin("head");
            b.value = s.length() - s.replaceAll("^#+", "").length();
            b.text = text.replaceAll("(^| +)#+$", "").trim();
            return 2;
        }
        if (s.matches("`{3,}[^`]*") || s.matches("~{3,}.*")) {
            Block b = begin("code");
            b.sign = s.charAt(0);
            b.info = s.replaceAll(b.sign == '`' ? "^`+" : "^~+", "");
            b.width = s.length() - b.info.length();
            b.info = b.info.trim();
            b.indent = indent;
            return 2;
        }
        if (hand.kind.equals("par") && s.matches("(=+|-+) *")) {
            String text = takeDefinitions(String.join("\n", hand.lines));
            hand.open = false;
            Block b = hand;
            hand = b.holder;
            b.holder.held.remove(b);
            if (!text.isEmpty()) {
                Block head = new Block("head", hand, b.first);
                head.open = false;
                head.last = number;
                head.value = s.startsWith("=") ? 1 : 2;
                head.text = text.replaceAll(" +$", "");
                hand.held.add(head);
                return 2;
            }
        }
        if (s.matches("(\\* *){3,}|(- *){3,}|(_ *){3,}")) {
            begin("rule");
            return 2;
        }
        return item(s, indent);
    }

    private int item(String s, int indent) {
        if (!s.matches("([-*+]|[0-9]{1,9}[.)])( .*)?")) {
            return 0;
        }
        String mark = s.replaceAll("^([-*+]|[0-9]{1,9}[.)]).*", "$1");
        String behind = s.substring(mark.length());
        boolean digits = mark.matches("[0-9].*");
        int told = digits ? Integer.parseInt(mark.substring(0, mark.length() - 1)) : 0;
        boolean blank = behind.matches(" *");
        if (hand.kind.equals("par") && (blank || digits && told != 1)) {
            return 0;
        }
        char sign = mark.charAt(mark.length() - 1);
        if (!hand.kind.equals("list") || hand.sign != sign) {
            Block list = begin("list");
            list.sign = sign;
            list.value = told;
            if (tooDeep >= 0) {
                return 2;
            }
        }
        Block b = begin("item");
        int n = behind.length() - behind.replaceAll("^ +", "").length();
        b.width = indent + mark.length() + (n >= 1 && n <= 4 && !blank ? n : 1);
        place = Math.min(line.length(), place + b.width);
        return 1;
    }

    private void takeRest() {
        Block tip = tip();
        if (!begun && tip != hand && !isBlank() && tip.kind.equals("par")) {
            tip.lines.add(behindSpaces());
            tip.last = number;
            return;
        }
        if (openIn(hand) != null) {
            close(openIn(hand));
        }
        if (hand.kind.equals("code")) {
            hand.lines.add(rest());
            hand.last = hand.sign == 0 && isBlank() ? hand.last : number;
        } else if (hand.kind.equals("par")) {
            hand.lines.add(behindSpaces());
            hand.last = number;
        } else if (!isBlank()) {
            begin("par").lines.add(behindSpaces());
        }
    }

    // Definitions and their pieces: each tells where it ends, or -1.

    private String takeDefinitions(String text) {
        String left = text;
        for (int end = define(left); end >= 0; end = define(left)) {
            left = left.substring(end);
        }
        return left;
    }

    private int define(String t) {
        int label = labelEnd(t, 0);
        if (label < 0 || !t.startsWith(":", label)) {
            return -1;
        }
        int target = gapEnd(t, label + 1);
        int targetEnd = targetEnd(t, target);
        if (targetEnd < 0) {
            return -1;
        }
        String to = unescaped(t.substring(target, targetEnd), t.charAt(target) == '<');
        int title = gapEnd(t, targetEnd);
        int titleEnd = title > targetEnd ? titleEnd(t, title) : -1;
        int end = titleEnd < 0 ? -1 : lineEnd(t, titleEnd);
        String told = end < 0 ? "" : unescaped(t.substring(title, titleEnd), true);
        end = end < 0 ? lineEnd(t, targetEnd) : end;
        if (end >= 0) {
            definitions.putIfAbsent(normal(t.substring(1, label - 1)), new String[] {to, told});
        }
        return end;
    }

    private static int lineEnd(String t, int at) {
        int p = at;
        while (p < t.length() && t.charAt(p) == ' ') {
            p++;
        }
        return p == t.length() ? p : t.charAt(p) == '\n' ? p + 1 : -1;
    }

    static String normal(String label) {
        StringBuilder s = new StringBuilder();
        for (char c : label.replaceAll("[\t\n\r ]+", " ").toCharArray()) {
            s.append(c >= 'A' && c <= 'Z' ? (char) (c + 32) : c);
        }
        return s.toString().replaceAll("^ | $", "");
    }

    static int labelEnd(String t, int at) {
        if (!t.startsWith("[", at)) {
            return -1;
        }
        int p = at + 1;
        while (p < t.length() && t.charAt(p) != ']') {
            if (t.charAt(p) == '[') {
                return -1;
            }
            p += t.charAt(p) == '\\' ? 2 : 1;
        }
        if (p >= t.length()) {
            return -1;
        }
        String label = t.substring(at + 1, p);
        int n = label.codePointCount(0, label.length());
        return n < 1 || n > 100 || label.matches("[\t\n\r ]*") ? -1 : p + 1;
    }

    static int gapEnd(String t, int at) {
        int p = at;
        boolean end = false;
        while (p < t.length() && (t.charAt(p) == ' ' || t.charAt(p) == '\n' && !end)) {
            end = end || t.charAt(p) == '\n';
            p++;
        }
        return p;
    }

    static int targetEnd(String t, int at) {
        if (t.startsWith("<", at)) {
            for (int p = at + 1; p < t.length(); p++) {
                char c = t.charAt(p);
                if (c == '>') {
                    return p + 1;
                }
                if (c == '<' || c == '\n') {
                    return -1;
                }
                p += c == '\\' && p + 1 < t.length() && t.charAt(p + 1) != '\n' ? 1 : 0;
            }
            return -1;
        }
        int open = 0;
        int p = at;
        while (p < t.length() && !Xmls.isWhite(t.charAt(p)) && !(t.charAt(p) == ')' && open == 0)) {
            char c = t.charAt(p);
            if (c == 127) {
                return -1;
            }
            open += c == '(' ? 1 : c == ')' ? -1 : 0;
            p += c == '\\' && p + 1 < t.length() && POINTS.indexOf(t.charAt(p + 1)) >= 0 ? 2 : 1;
        }
        return p == at || open > 0 ? -1 : p;
    }

    static int titleEnd(String t, int at) {
        if (at >= t.length() || "\"'(".indexOf(t.charAt(at)) < 0) {
            return -1;
        }
        char close = t.charAt(at) == '(' ? ')' : t.charAt(at);
        for (int p = at + 1; p < t.length(); p++) {
            char c = t.charAt(p);
            if (c == close) {
                return p + 1;
            }
            if (c == '(' && close == ')') {
                return -1;
            }
            p += c == '\\' ? 1 : 0;
        }
        return -1;
    }

    static String unescaped(String told, boolean signsAround) {
        String t = signsAround ? told.substring(1, told.length() - 1) : told;
        StringBuilder s = new StringBuilder();
        for (int p = 0; p < t.length(); p++) {
            char c = t.charAt(p);
            String reference = referenceAt(t, p);
            if (c == '\\' && p + 1 < t.length() && POINTS.indexOf(t.charAt(p + 1)) >= 0) {
                p++;
                s.append(t.charAt(p));
            } else if (reference != null) {
                int number = told(reference);
                s.appendCodePoint(isForbidden(number) ? 65533 : number);
                p += reference.length() - 1;
            } else {
                s.append(c);
            }
        }
        return s.toString();
    }

    static boolean isForbidden(int c) {
        return c < 32 && c != 9 && c != 10 && c != 13 || c == 65534 || c == 65535;
    }

    /** The reference that stands at a place, or null. */
    static String referenceAt(String t, int at) {
        java.util.regex.Matcher m = java.util.regex.Pattern.compile("&(#[0-9]{1,7}|#[xX][0-9a-fA-F]{1,6}|amp|lt|gt|quot|apos|nbsp"
            + "|copy|reg|auml|ouml|uuml|Auml|Ouml|Uuml|szlig|eacute|euro|hellip|mdash|ndash);").matcher(t);
        return t.charAt(at) == '&' && m.find(at) && m.start() == at ? m.group() : null;
    }

    static int told(String reference) {
        if (reference.startsWith("&#")) {
            boolean hex = reference.charAt(2) == 'x' || reference.charAt(2) == 'X';
            int n = Integer.parseInt(reference.substring(hex ? 3 : 2, reference.length() - 1), hex ? 16 : 10);
            return n == 0 || n > 1114111 || n >= 55296 && n <= 57343 ? 65533 : n;
        }
        String[] names = "amp lt gt quot apos nbsp copy reg auml ouml uuml Auml Ouml Uuml szlig eacute euro hellip mdash ndash".split(" ");
        int[] told = {38, 60, 62, 34, 39, 160, 169, 174, 228, 246, 252, 196, 214, 220, 223, 233, 8364, 8230, 8212, 8211};
        return told[List.of(names).indexOf(reference.substring(1, reference.length() - 1))];
    }
}
