import java.util.ArrayList;
import java.util.List;
import java.util.Map;

/** A plain model of INLINES, for the test that compares the program with it. */
final class Inlines {
    /** An inline; a run or a bracket as long as it waits. */
    static final class Node {
        String kind;
        String text = "";
        String target = "";
        String title = "";
        List<Node> held = new ArrayList<>();
        // Of a run.
        char sign;
        int size;
        int left;
        boolean opens;
        boolean closes;
        boolean passed;
        // Of a bracket.
        boolean image;
        boolean dead;
        boolean met;
        int behind;

        Node(String kind, String text) {
            this.kind = kind;
            this.text = text;
        }
    }

    /** 2 or 3 if the leaf has such an ERROR, 5 if an inline is too deep. */
    int error;
    private final String t;
    private final Map<String, String[]> definitions;
    private final List<Node> all = new ArrayList<>();
    private final List<Node> brackets = new ArrayList<>();
    private int at;

    Inlines(String text, Map<String, String[]> definitions) {
        t = text;
        this.definitions = definitions;
        while (at < t.length() && error == 0) {
            next();
        }
        pair(0);
    }

    List<Node> nodes() {
        List<Node> nodes = settled(all);
        error = error == 0 && deep(nodes) > 20 ? 5 : error;
        return nodes;
    }

    private static int deep(List<Node> nodes) {
        int most = 0;
        for (Node n : nodes) {
            most = Math.max(most, 1 + deep(n.held));
        }
        return most;
    }

    /** What waits becomes TEXT, and texts side by side are one. */
    private static List<Node> settled(List<Node> nodes) {
        List<Node> out = new ArrayList<>();
        for (Node n : nodes) {
            if (n.kind.equals("run") || n.kind.equals("bracket")) {
                n.text = n.kind.equals("run") ? ("" + n.sign).repeat(n.left) : n.image ? "![" : "[";
                n.kind = "text";
            }
            n.held = settled(n.held);
            Node last = out.isEmpty() ? null : out.get(out.size() - 1);
            if (n.kind.equals("text") && last != null && last.kind.equals("text")) {
                last.text += n.text;
            } else if (!n.kind.equals("text") || !n.text.isEmpty()) {
                out.add(n);
            }
        }
        return out;
    }

    private void text(String s) {
        all.add(new Node("text", s));
    }

    private char sign(int p) {
        return p >= 0 && p < t.length() ? t.charAt(p) : '\n';
    }

    private void next() {
        char c = t.charAt(at);
        if (c == '\n') {
            lineEnd();
        } else if (c == '\\') {
            boolean point = at + 1 < t.length() && Blocks.POINTS.indexOf(t.charAt(at + 1)) >= 0;
            if (at + 1 < t.length() && t.charAt(at + 1) == '\n') {
                all.add(new Node("hard", ""));
                at += 2;
            } else {
                text(point ? "" + t.charAt(at + 1) : "\\");
                at += point ? 2 : 1;
            }
        } else if (c == '`') {
            coding();
        } else if (c == '<') {
            pointed();
        } else if (c == '&') {
            String reference = Blocks.referenceAt(t, at);
            int number = reference == null ? '&' : Blocks.told(reference);
            error = Blocks.isForbidden(number) ? 2 : 0;
            text(new String(Character.toChars(number)));
            at += reference == null ? 1 : reference.length();
        } else if (c == '*' || c == '_') {
            run(c);
        } else if (c == '[' || t.startsWith("![", at)) {
            for (Node b : brackets) {
                b.met = true;
            }
            Node b = new Node("bracket", "");
            b.image = c == '!';
            at += b.image ? 2 : 1;
            b.behind = at;
            brackets.add(b);
            all.add(b);
        } else if (c == ']') {
            closeBracket();
        } else {
            text("" + c);
            at++;
        }
    }

    private void lineEnd() {
        int spaces = 0;
        while (sign(at - 1 - spaces) == ' ') {
            spaces++;
            all.remove(all.size() - 1);
        }
        all.add(new Node(spaces >= 2 ? "hard" : "soft", ""));
        at++;
    }

    private int rowEnd(int from, char c) {
        int p = from;
        while (p < t.length() && t.charAt(p) == c) {
            p++;
        }
        return p;
    }

    private void coding() {
        int begin = rowEnd(at, '`');
        for (int p = begin; p < t.length(); p++) {
            int end = rowEnd(p, '`');
            if (end - p == begin - at) {
                String s = t.substring(begin, p).replace('\n', ' ');
                boolean strip = s.startsWith(" ") && s.endsWith(" ") && !s.isBlank();
                all.add(new Node("coding", strip ? s.substring(1, s.length() - 1) : s));
                at = end;
                return;
            }
            p = Math.max(p, end - 1);
        }
        text(t.substring(at, begin));
        at = begin;
    }

    private void pointed() {
        java.util.regex.Matcher scheme = java.util.regex.Pattern
            .compile("<([a-zA-Z][a-zA-Z0-9+.-]{1,31}:[^\\x00-\\x20<>\\x7f]*)>").matcher(t);
        java.util.regex.Matcher mail = java.util.regex.Pattern
            .compile("<([a-zA-Z0-9._+-]+@[a-zA-Z0-9]([a-zA-Z0-9._+-]*[a-zA-Z0-9])?)>").matcher(t);
        boolean first = scheme.find(at) && scheme.start() == at;
        boolean second = !first && mail.find(at) && mail.start() == at;
        if (first || second) {
            String told = first ? scheme.group(1) : mail.group(1);
            Node link = new Node("link", "");
            link.target = (first ? "" : "mailto:") + told;
            link.held.add(new Node("text", told));
            all.add(link);
            kill();
            at += told.length() + 2;
        } else if (t.substring(at).matches("(?s)<([a-zA-Z]|/[a-zA-Z]|!|\\?).*>.*")) {
            error = 3;
        } else {
            text("<");
            at++;
        }
    }

    private void kill() {
        for (Node b : brackets) {
            b.dead = b.dead || !b.image;
        }
    }

    private static boolean isWhite(char c) {
        return Xmls.isWhite(c) || c == 160;
    }

    private static boolean isPoint(char c) {
        return Blocks.POINTS.indexOf(c) >= 0 || "\u00A1\u00A7\u00AB\u00B6\u00B7\u00BB\u00BF".indexOf(c) >= 0 || c >= 8208 && c <= 8286;
    }

    private void run(char c) {
        int end = rowEnd(at, c);
        char ahead = sign(at - 1);
        char behind = sign(end);
        boolean left = !isWhite(behind) && (!isPoint(behind) || isWhite(ahead) || isPoint(ahead));
        boolean right = !isWhite(ahead) && (!isPoint(ahead) || isWhite(behind) || isPoint(behind));
        Node r = new Node("run", "");
        r.sign = c;
        r.size = end - at;
        r.left = r.size;
        r.opens = left && (c == '*' || !right || isPoint(ahead));
        r.closes = right && (c == '*' || !left || isPoint(behind));
        all.add(r);
        at = end;
    }

    private static boolean clash(Node a, Node b) {
        boolean both = a.opens && a.closes || b.opens && b.closes;
        return both && (a.size + b.size) % 3 == 0 && !(a.size % 3 == 0 && b.size % 3 == 0);
    }

    private void pair(int from) {
        for (int i = from; i < all.size(); i++) {
            Node closer = all.get(i);
            while (closer.kind.equals("run") && closer.closes && closer.left > 0) {
                int j = i - 1;
                while (j >= from && !(all.get(j).kind.equals("run") && all.get(j).sign == closer.sign && all.get(j).opens
                    && all.get(j).left > 0 && !clash(all.get(j), closer))) {
                    j--;
                }
                if (j < from) {
                    break;
                }
                Node opener = all.get(j);
                boolean two = opener.left >= 2 && closer.left >= 2;
                opener.left -= two ? 2 : 1;
                closer.left -= two ? 2 : 1;
                Node made = new Node(two ? "strong" : "em", "");
                // Runs between are passed over: they stand in what is made, and no run looks there.
                List<Node> between = all.subList(j + 1, i);
                made.held.addAll(between);
                between.clear();
                all.add(j + 1, made);
                i = j + 2;
            }
        }
        List<Node> done = settled(new ArrayList<>(all.subList(from, all.size())));
        all.subList(from, all.size()).clear();
        all.addAll(done);
    }

    private void closeBracket() {
        Node b = brackets.isEmpty() ? null : brackets.remove(brackets.size() - 1);
        int end = b == null || b.dead ? -1 : link(b);
        if (end < 0) {
            text("]");
            at++;
            return;
        }
        int place = all.indexOf(b);
        pair(place + 1);
        b.kind = b.image ? "image" : "link";
        List<Node> behind = all.subList(place + 1, all.size());
        b.held.addAll(behind);
        behind.clear();
        if (!b.image) {
            kill();
        }
        at = end;
    }

    /** Where the link ends whose ] stands here, its target and title kept; -1 if it is none. */
    private int link(Node b) {
        int end = t.startsWith("(", at + 1) ? plainLink(b) : -1;
        if (end >= 0) {
            return end;
        }
        int label = Blocks.labelEnd(t, at + 1);
        boolean own = label < 0;
        boolean empty = own && t.startsWith("[]", at + 1);
        String told = own ? t.substring(b.behind, at) : t.substring(at + 2, label - 1);
        if (own && (b.met || Blocks.labelEnd("[" + told + "]", 0) != told.length() + 2)) {
            return -1;
        }
        String[] definition = definitions.get(Blocks.normal(told));
        if (definition == null) {
            return -1;
        }
        b.target = definition[0];
        b.title = definition[1];
        return own ? empty ? at + 3 : at + 1 : label;
    }

    private int plainLink(Node b) {
        int target = Blocks.gapEnd(t, at + 2);
        int targetEnd = Blocks.targetEnd(t, target);
        String told = targetEnd < 0 ? "" : Blocks.unescaped(t.substring(target, targetEnd), t.charAt(target) == '<');
        targetEnd = Math.max(target, targetEnd);
        int title = Blocks.gapEnd(t, targetEnd);
        int titleEnd = title > targetEnd ? Blocks.titleEnd(t, title) : -1;
        int close = Blocks.gapEnd(t, titleEnd < 0 ? targetEnd : titleEnd);
        if (!t.startsWith(")", close)) {
            return -1;
        }
        b.target = told;
        b.title = titleEnd < 0 ? "" : Blocks.unescaped(t.substring(title, titleEnd), true);
        return close + 1;
    }
}
