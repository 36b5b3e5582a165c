import java.util.HashSet;
import java.util.Random;
import java.util.Set;

/** Promises 23 and 24 on very many texts, each looked at by a plain model of XML and LISTED as well. */
public final class XmlModelTest {
    private static final String[] PIECES = {"<a>", "</a>", "<b/>", "<b", "<", ">", "/>", "/", "</", "</b >", " ", "\n", " c=\"",
        "\"", " d=\"e\"", "=", "&amp;", "&#65;", "&#x1F;", "&", ";", "x", "é", "\u20AC", "<a ", "<_1.:-", "?", "!", "-",
        "<abcdefghijklmnopqrstuvwxyz01234", "5", "\t", "&nbsp;", "&#0;", "&quot;", "\u0001", "</a", "<a/>"};
    private static Random random;

    public static void main(String[] args) {
        for (int run = 0; run < 20000; run++) {
            random = new Random(run);
            pieces();
        }
        for (int run = 0; run < 4000; run++) {
            random = new Random(run);
            documents();
        }
        Check.finish();
    }

    private static void pieces() {
        StringBuilder s = new StringBuilder(random.nextInt(9) == 0 ? Xmls.X : random.nextInt(9) == 0 ? Xmls.X.substring(0, random.nextInt(38)) : "");
        s.append(random.nextInt(4) == 0 ? "" : "<a>");
        for (int k = random.nextInt(12); k > 0; k--) {
            s.append(PIECES[random.nextInt(PIECES.length)]);
        }
        s.append(random.nextInt(3) == 0 ? "" : "</a>");
        byte[] bytes = Check.utf8(s.toString());
        if (bytes.length > 0 && random.nextInt(9) == 0) {
            bytes[random.nextInt(bytes.length)] = (byte) random.nextInt(256);
        }
        BookWorks x = new BookWorks();
        Check.tape(x, bytes);
        String got;
        try {
            got = x.xml() + " elements";
        } catch (IllegalArgumentException e) {
            got = "at " + x.fault(2);
        }
        Check.same("xml of " + s, got, looked(bytes));
    }

    private static String looked(byte[] bytes) {
        try {
            Xmls.parse(bytes);
            return Xmls.all.size() + " elements";
        } catch (Xmls.Stop e) {
            return "at " + e.place;
        }
    }

    private static void documents() {
        StringBuilder body = new StringBuilder();
        for (int k = random.nextInt(4); k > 0; k--) {
            body.append(Xmls.piece(random, "body", 0));
        }
        String document = Check.html(body.toString());
        Check.same("read of " + document, Check.read(Check.archive(Check.bookFiles(document))), listed(Check.utf8(document)));
    }

    private static String listed(byte[] document) {
        try {
            Xmls.parse(document);
        } catch (Xmls.Stop e) {
            return "10 3 " + e.place;
        }
        Set<String> ids = new HashSet<>();
        for (Xmls.Element e : Xmls.all) {
            if (!mayBe(e) || !hasAttributes(e) || e.value("id") != null && !ids.add(e.value("id")) || !holds(e) || !text(e)) {
                return "11 3 " + e.place;
            }
        }
        for (Xmls.Element e : Xmls.all) {
            String link = e.name.equals("a") ? e.value("href") : "";
            if (link.startsWith("#") && !ids.contains(link.substring(1))) {
                return "12 3 " + e.place;
            }
        }
        return "1";
    }

    private static boolean isBlock(String name) {
        return " p h1 h2 h3 h4 h5 h6 hr pre blockquote ul ol ".contains(" " + name + " ");
    }

    private static boolean isInline(String name) {
        return " em strong code a br img ".contains(" " + name + " ");
    }

    private static boolean mayBe(Xmls.Element e) {
        String holder = e.holder == null ? "" : e.holder.name;
        switch (holder) {
            case "":
                return e.name.equals("html");
            case "html":
                return e.name.equals("head") || e.name.equals("body");
            case "head":
                return e.name.equals("title");
            case "body":
            case "blockquote":
                return isBlock(e.name);
            case "ul":
            case "ol":
                return e.name.equals("li");
            case "pre":
                return e.name.equals("code");
            case "title":
            case "code":
            case "hr":
            case "br":
            case "img":
                return false;
            default:
                for (Xmls.Element up = e.holder; up != null && e.name.equals("a"); up = up.holder) {
                    if (up.name.equals("a")) {
                        return false;
                    }
                }
                return isInline(e.name) || holder.equals("li") && isBlock(e.name);
        }
    }

    private static boolean hasAttributes(Xmls.Element e) {
        for (String[] one : e.attributes) {
            String own = " " + e.name + " ";
            String on = one[0].equals("id") ? own : one[0].equals("href") ? " a " : one[0].equals("title") ? " a img "
                : one[0].equals("src") || one[0].equals("alt") ? " img " : one[0].equals("class") ? " code "
                : one[0].equals("start") ? " ol " : "";
            if (!on.contains(own) || one[0].equals("start") && !one[1].matches("[0-9]{1,9}")) {
                return false;
            }
        }
        return e.name.equals("a") ? e.value("href") != null
            : !e.name.equals("img") || e.value("src") != null && e.value("alt") != null;
    }

    private static boolean holds(Xmls.Element e) {
        StringBuilder names = new StringBuilder();
        for (Xmls.Element one : e.held) {
            names.append(one.name).append(' ');
        }
        String due = e.name.equals("html") ? "head body " : e.name.equals("head") ? "title " : e.name.equals("pre") ? "code " : null;
        return due == null || names.toString().equals(due);
    }

    private static boolean text(Xmls.Element e) {
        if (e.name.equals("hr") || e.name.equals("br") || e.name.equals("img")) {
            return !e.white;
        }
        return !e.words || !" html head body blockquote ul ol pre ".contains(" " + e.name + " ");
    }
}
