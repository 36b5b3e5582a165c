import java.util.ArrayList;
import java.util.List;
import java.util.Random;

/** A plain model of XML, and documents made at random, for the tests that compare the program with models. */
final class Xmls {
    static final String X = "<?xml version=\"1.0\" encoding=\"UTF-8\"?>";
    private static final String[] TAGS = {"p", "h1", "h6", "hr", "pre", "blockquote", "ul", "ol", "li", "em", "strong", "a", "code",
        "br", "img", "q", "title", "body"};
    private static final String[] SIGNS = {"", "", "", " id=\"i\"", " id=\"j\"", " href=\"x\"", " href=\"#i\"", " title=\"\"", " src=\"\"",
        " alt=\"\"", " class=\"c\"", " start=\"3\"", " start=\"\"", " x=\"\""};

    /** An element of the model. */
    static final class Element {
        String name;
        int place;
        Element holder;
        List<Element> held = new ArrayList<>();
        // Elements, and characters as numbers, as they come.
        List<Object> content = new ArrayList<>();
        List<String[]> attributes = new ArrayList<>();
        boolean words;
        boolean white;

        String value(String attribute) {
            for (String[] one : attributes) {
                if (one[0].equals(attribute)) {
                    return one[1];
                }
            }
            return null;
        }
    }

    /** Where the text can't go on. */
    static final class Stop extends RuntimeException {
        private static final long serialVersionUID = 1;
        final int place;

        Stop(int place) {
            super("stop", null, false, false);
            this.place = place;
        }
    }

    private static byte[] b;
    private static int at;
    static List<Element> all;

    private Xmls() {
    }

    private static int here() {
        return at < b.length ? b[at] & 255 : -1;
    }

    private static void expect(int sign) {
        if (here() != sign) {
            throw new Stop(at);
        }
        at++;
    }

    static boolean isWhite(int c) {
        return c == 9 || c == 10 || c == 13 || c == 32;
    }

    private static int white() {
        int from = at;
        while (isWhite(here())) {
            at++;
        }
        return at - from;
    }

    static void parse(byte[] bytes) {
        b = bytes;
        at = new String(bytes, java.nio.charset.StandardCharsets.ISO_8859_1).startsWith(X) ? 38 : 0;
        all = new ArrayList<>();
        white();
        element(null, 1);
        white();
        if (at < b.length) {
            throw new Stop(at);
        }
    }

    private static String name() {
        int from = at;
        String first = "abcdefghijklmnopqrstuvwxyzABCDEFGHIJKLMNOPQRSTUVWXYZ_";
        while (here() >= 0 && (at == from ? first : first + "0123456789-.:").indexOf(here()) >= 0) {
            if (at - from == 30) {
                throw new Stop(at);
            }
            at++;
        }
        if (at == from) {
            throw new Stop(at);
        }
        return new String(b, from, at - from, java.nio.charset.StandardCharsets.ISO_8859_1);
    }

    /** A character or a reference. */
    private static int character() {
        int from = at;
        if (here() == '&') {
            int end = at;
            while (end < b.length && b[end] != ';') {
                end++;
            }
            String told = new String(b, from, Math.min(end + 1, b.length) - from, java.nio.charset.StandardCharsets.ISO_8859_1);
            int c = told.equals("&amp;") ? 38 : told.equals("&lt;") ? 60 : told.equals("&gt;") ? 62 : told.equals("&quot;") ? 34
                : told.equals("&apos;") ? 39 : told.matches("&#[0-9]{1,7};") ? Integer.parseInt(told.substring(2, told.length() - 1))
                : told.matches("&#[xX][0-9a-fA-F]{1,6};") ? Integer.parseInt(told.substring(3, told.length() - 1), 16) : -1;
            if (c < 1 || c > 1114111 || c >= 55296 && c <= 57343 || isForbidden(c)) {
                throw new Stop(from);
            }
            at = end + 1;
            return c;
        }
        for (int n = 1; n <= 4 && at + n <= b.length; n++) {
            String s = new String(b, at, n, java.nio.charset.StandardCharsets.UTF_8);
            if (s.codePointCount(0, s.length()) == 1 && java.util.Arrays.equals(Check.utf8(s), java.util.Arrays.copyOfRange(b, at, at + n))
                && !isForbidden(s.codePointAt(0))) {
                at += n;
                return s.codePointAt(0);
            }
        }
        throw new Stop(from);
    }

    private static boolean isForbidden(int c) {
        return c < 32 && !isWhite(c) || c == 65534 || c == 65535;
    }

    private static void element(Element holder, int depth) {
        Element e = new Element();
        e.place = at;
        e.holder = holder;
        if (here() == '<' && (depth > 60 || all.size() == 3000)) {
            throw new Stop(at);
        }
        expect('<');
        e.name = name();
        all.add(e);
        if (holder != null) {
            holder.held.add(e);
            holder.content.add(e);
        }
        while (true) {
            int gap = white();
            if (here() == '/') {
                at++;
                expect('>');
                return;
            }
            if (here() == '>') {
                at++;
                break;
            }
            if (gap == 0) {
                throw new Stop(at);
            }
            attribute(e);
        }
        while (here() != '<' || at + 1 >= b.length || b[at + 1] != '/') {
            if (here() == '<') {
                element(e, depth + 1);
            } else if (here() < 0) {
                throw new Stop(at);
            } else {
                int c = character();
                e.content.add(c);
                e.white = true;
                e.words = e.words || !isWhite(c);
            }
        }
        at += 2;
        int from = at;
        if (!name().equals(e.name)) {
            throw new Stop(from);
        }
        white();
        expect('>');
    }

    private static void attribute(Element e) {
        int from = at;
        String name = name();
        if (e.value(name) != null) {
            throw new Stop(from);
        }
        expect('=');
        expect('"');
        StringBuilder value = new StringBuilder();
        while (here() != '"') {
            if (here() < 0 || here() == '<') {
                throw new Stop(at);
            }
            value.appendCodePoint(character());
        }
        at++;
        e.attributes.add(new String[] {name, value.toString()});
    }

    /** A name that may mostly stand in this holder. */
    private static String nameIn(Random random, String holder) {
        if (random.nextInt(25) == 0) {
            return TAGS[random.nextInt(TAGS.length)];
        }
        if (holder.equals("ul") || holder.equals("ol")) {
            return "li";
        }
        boolean block = holder.equals("body") || holder.equals("blockquote") || holder.equals("li") && random.nextBoolean();
        return block ? TAGS[random.nextInt(8)] : TAGS[9 + random.nextInt(6)];
    }

    static String piece(Random random, String holder, int depth) {
        String name = nameIn(random, holder);
        StringBuilder s = new StringBuilder("<" + name);
        if (random.nextInt(30) > 0) {
            s.append(name.equals("a") ? " href=\"" + (random.nextInt(4) == 0 ? "#i" : "y") + "\"" : "");
            s.append(name.equals("img") ? " src=\"\" alt=\"\"" : "");
        }
        s.append(random.nextInt(9) == 0 ? " id=\"" + (char) ('i' + random.nextInt(9)) + "\"" : "");
        if (random.nextInt(25) == 0) {
            String sign = SIGNS[random.nextInt(SIGNS.length)];
            s.append(s.indexOf(sign.split("=")[0] + "=") >= 0 ? "" : sign);
        }
        s.append(">");
        s.append(name.equals("pre") && random.nextInt(20) > 0 ? "<code>x</code>" : "");
        boolean empty = name.equals("hr") || name.equals("br") || name.equals("img") || name.equals("pre") || name.equals("code");
        boolean text = !empty && !name.equals("ul") && !name.equals("ol") && !name.equals("blockquote");
        for (int k = depth > 3 || empty && random.nextInt(20) > 0 ? 0 : random.nextInt(4); k > 0; k--) {
            boolean word = text ? random.nextBoolean() : random.nextInt(30) == 0;
            s.append(word ? random.nextBoolean() ? "x" : " " : piece(random, name, depth + 1));
        }
        return s + "</" + name + ">";
    }
}
