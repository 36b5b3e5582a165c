import java.util.Arrays;
import java.util.List;

/** LISTED: each element in each other one, each attribute on each element, text in each of them. */
public final class ListedEdgesTest {
    private static final List<String> BLOCKS = Arrays.asList("p", "h1", "h2", "h3", "h4", "h5", "h6", "hr", "pre", "blockquote",
        "ul", "ol");
    private static final List<String> INLINES = Arrays.asList("em", "strong", "code", "a", "br", "img");
    private static final List<String> WITH_INLINES = Arrays.asList("p", "h1", "h2", "h3", "h4", "h5", "h6", "em", "strong", "a",
        "li");
    private static final String[] ALL = {"html", "head", "title", "body", "blockquote", "ul", "ol", "li", "p", "h1", "h2", "h3",
        "h4", "h5", "h6", "em", "strong", "a", "pre", "code", "hr", "br", "img", "container", "rootfiles", "rootfile", "package",
        "manifest", "item", "spine", "itemref", "q", "h0", "h7", "P", "div", "pp", "emm", "i"};
    private static final String[] ATTRIBUTES = {"id", "href", "title", "src", "alt", "class", "start", "name", "ID", "i", "idd"};

    public static void main(String[] args) {
        elementsInElements();
        elementsDeeper();
        attributesOnElements();
        attributesThatMustBe();
        textInElements();
        whatMustBeHeld();
        Check.finish();
    }

    private static String read(String document) {
        return Check.read(Check.archive(Check.bookFiles(document)));
    }

    /** An element with what it must have and hold, and with something more in it. */
    private static String element(String name, String inside) {
        String more = name.equals("a") ? " href=\"x\"" : name.equals("img") ? " src=\"x\" alt=\"y\"" : "";
        String held = name.equals("pre") ? "<code></code>" : "";
        return "<" + name + more + ">" + held + inside + "</" + name + ">";
    }

    /** What stands ahead of an element of this name, so that it may be there; and what must stand behind it. */
    private static String ahead(String name) {
        String start = "<html><head><title></title></head>";
        if (name.equals("html")) {
            return "";
        }
        if (name.equals("head")) {
            return "<html>";
        }
        if (name.equals("title")) {
            return "<html><head>";
        }
        if (name.equals("body")) {
            return start;
        }
        if (name.equals("li")) {
            return start + "<body><ul>";
        }
        return start + (INLINES.contains(name) ? "<body><p>" : "<body>");
    }

    private static String behind(String name) {
        if (name.equals("html")) {
            return "";
        }
        if (name.equals("head")) {
            return "<body></body></html>";
        }
        if (name.equals("title")) {
            return "</head><body></body></html>";
        }
        if (name.equals("body")) {
            return "</html>";
        }
        if (name.equals("li")) {
            return "</ul></body></html>";
        }
        return INLINES.contains(name) ? "</p></body></html>" : "</body></html>";
    }

    private static boolean mayHold(String holder, String name) {
        if (holder.equals("body") || holder.equals("blockquote")) {
            return BLOCKS.contains(name);
        }
        if (holder.equals("ul") || holder.equals("ol")) {
            return name.equals("li");
        }
        if (holder.equals("li") && BLOCKS.contains(name)) {
            return true;
        }
        return WITH_INLINES.contains(holder) && INLINES.contains(name) && !(holder.equals("a") && name.equals("a"));
    }

    private static void elementsInElements() {
        for (String holder : Arrays.asList(ALL).subList(3, 23)) {
            for (String name : ALL) {
                String document = ahead(holder) + element(holder, element(name, "")) + behind(holder);
                int own = ahead(holder).length();
                int inner = own + element(holder, "").indexOf("</" + holder);
                String due = mayHold(holder, name) ? "1" : "11 3 " + (holder.equals("pre") ? own : inner);
                Check.same(name + " in " + holder, read(document), due);
            }
        }
        for (String name : ALL) {
            String start = "<html><head><title>";
            Check.same(name + " in title", read(start + element(name, "") + "</title></head><body></body></html>"), "11 3 19");
            String title = "<html><head><title></title>" + element(name, "") + "</head><body></body></html>";
            Check.same(name + " in head", read(title), "11 3 6");
            String html = "<html><head><title></title></head><body></body>" + element(name, "") + "</html>";
            Check.same(name + " in html", read(html), "11 3 0");
            Check.same(name + " as the whole", read(element(name, "")), "11 3 0");
        }
    }

    private static void elementsDeeper() {
        Check.same("no a in an a, however deep", read(Check.html("<p><a href=\"x\"><em><strong><a href=\"y\"/></strong></em></a></p>")),
            "11 3 68");
        Check.same("an a beside an a", read(Check.html("<p><a href=\"x\"/><em><a href=\"y\"/></em></p>")), "1");
        Check.same("a block deep in inlines", read(Check.html("<p><em><p/></em></p>")), "11 3 48");
        Check.same("a block in a li of a li", read(Check.html("<ul><li><ol><li><hr/></li></ol></li></ul>")), "1");
        Check.same("a li in a quote", read(Check.html("<ul><li><blockquote><li/></blockquote></li></ul>")), "11 3 61");
        Check.same("the first that is wrong", read(Check.html("<p><em><q/></em></p><q/>")), "11 3 48");
        Check.same("an outer one ahead of an inner one", read(Check.html("<p src=\"\"><q/></p>")), "11 3 41");
        Check.same("text of an outer one ahead of an inner one", read(Check.html("<ul><li><q/></li>x</ul>")), "11 3 41");
    }

    private static boolean mayHave(String name, String attribute) {
        switch (attribute) {
            case "id":
                return true;
            case "href":
                return name.equals("a");
            case "title":
                return name.equals("a") || name.equals("img");
            case "src":
            case "alt":
                return name.equals("img");
            case "class":
                return name.equals("code");
            case "start":
                return name.equals("ol");
            default:
                return false;
        }
    }

    private static void attributesOnElements() {
        for (String name : Arrays.asList(ALL).subList(0, 23)) {
            for (String attribute : ATTRIBUTES) {
                String plain = element(name, "");
                if (name.equals("html") || name.equals("head")) {
                    plain = name.equals("html") ? "<html><head><title></title></head><body></body></html>"
                        : "<head><title></title></head>";
                }
                boolean has = plain.startsWith("<a href") && attribute.equals("href")
                    || plain.startsWith("<img") && (attribute.equals("src") || attribute.equals("alt"));
                String with = has ? plain : plain.replaceFirst("<" + name, "<" + name + " " + attribute + "=\"7\"");
                String document = ahead(name) + with + behind(name);
                String due = mayHave(name, attribute) ? "1" : "11 3 " + ahead(name).length();
                Check.same(attribute + " on " + name, read(document), due);
            }
        }
    }

    private static void attributesThatMustBe() {
        String[] fine = {"<a href=\"\"/>", "<a title=\"\" href=\"\"/>", "<a id=\"i\" href=\"\" title=\"\"/>",
            "<img src=\"\" alt=\"\"/>", "<img alt=\"\" id=\"i\" src=\"\"/>", "<img alt=\"\" title=\"\" src=\"\"/>", "<code/>"};
        String[] wrong = {"<a/>", "<a id=\"i\"/>", "<a title=\"\"/>", "<a id=\"i\" title=\"\"/>", "<img/>", "<img src=\"\"/>",
            "<img alt=\"\"/>", "<img src=\"\" title=\"\"/>", "<img alt=\"\" id=\"i\"/>", "<img id=\"i\" title=\"\"/>"};
        for (String one : fine) {
            Check.same(one, read(Check.html("<p>" + one + "</p>")), "1");
        }
        for (String one : wrong) {
            Check.same(one, read(Check.html("<p>" + one + "</p>")), "11 3 44");
        }
    }

    private static void textInElements() {
        for (String name : Arrays.asList(ALL).subList(2, 23)) {
            boolean free = WITH_INLINES.contains(name) || name.equals("title") || name.equals("code");
            boolean none = name.equals("hr") || name.equals("br") || name.equals("img");
            for (String text : new String[] {"x", "&#65;", "&amp;", "\u00A0", " x "}) {
                String document = ahead(name) + element(name, text) + behind(name);
                Check.same("text " + text + " in " + name, read(document), free ? "1" : "11 3 " + ahead(name).length());
            }
            for (String white : new String[] {" ", "\n", "\t", "\r", "&#32;", " \r\n\t"}) {
                String document = ahead(name) + element(name, white) + behind(name);
                Check.same("white in " + name, read(document), none ? "11 3 " + ahead(name).length() : "1");
            }
        }
        Check.same("white in html and head", read("<html>\n<head> <title/>\t</head>\r<body/> </html>"), "1");
        Check.same("text in html", read("<html><head><title/></head>x<body/></html>"), "11 3 0");
        Check.same("text in head", read("<html><head>x<title/></head><body/></html>"), "11 3 6");
        Check.same("text behind an element", read(Check.html("<ul><li/>x</ul>")), "11 3 41");
    }

    private static void whatMustBeHeld() {
        Check.same("head and body", read("<html><head><title/></head><body/></html>"), "1");
        String[] wrong = {"<html></html>", "<html><head><title/></head></html>", "<html><body/></html>",
            "<html><body/><head><title/></head></html>", "<html><head><title/></head><head><title/></head><body/></html>",
            "<html><head><title/></head><body/><body/></html>", "<html><head><title/></head><p/></html>",
            "<html><title/><head><title/></head><body/></html>"};
        for (String one : wrong) {
            Check.same(one, read(one), "11 3 0");
        }
        Check.same("no title", read("<html><head></head><body/></html>"), "11 3 6");
        Check.same("two titles", read("<html><head><title/><title/></head><body/></html>"), "11 3 6");
        Check.same("a body in head", read("<html><head><body/></head><body/></html>"), "11 3 6");
        Check.same("one code", read(Check.html("<pre><code/></pre>")), "1");
        Check.same("no code", read(Check.html("<pre></pre>")), "11 3 41");
        Check.same("two codes", read(Check.html("<pre><code/><code/></pre>")), "11 3 41");
        Check.same("another one than code", read(Check.html("<pre><em/></pre>")), "11 3 41");
    }
}
