/** XML and promise 23 at their boundaries. */
public final class XmlEdgesTest {
    private static final String X = "<?xml version=\"1.0\" encoding=\"UTF-8\"?>";

    public static void main(String[] args) {
        beginnings();
        ends();
        names();
        lengthsOfNames();
        attributes();
        values();
        references();
        characters();
        endTags();
        depth();
        number();
        whatIsKept();
        Check.finish();
    }

    private static String looked(byte[] b) {
        BookWorks x = new BookWorks();
        Check.tape(x, b);
        try {
            int n = x.xml();
            Check.same("fault(0)", x.fault(0), 0);
            Check.same("fault(1)", x.fault(1), -1);
            Check.same("fault(2)", x.fault(2), -1);
            return n + " elements";
        } catch (IllegalArgumentException e) {
            Check.same("fault(0)", x.fault(0), 8);
            Check.same("fault(1)", x.fault(1), -1);
            return "at " + x.fault(2);
        }
    }

    private static void fine(String text, int elements) {
        Check.same("xml of " + text, looked(Check.utf8(text)), elements + " elements");
    }

    private static void wrong(String text, int place) {
        Check.same("xml of " + text, looked(Check.utf8(text)), "at " + place);
    }

    private static void beginnings() {
        fine(X + "<a/>", 1);
        fine(X + " \n\r\t<a/>", 1);
        fine("<a/>", 1);
        fine("\t\r\n <a/>", 1);
        wrong(X, 38);
        wrong(X + " ", 39);
        wrong(X + "x<a/>", 38);
        wrong(X + X + "<a/>", 39);
        wrong(" " + X + "<a/>", 2);
        wrong("\uFEFF<a/>", 0);
        wrong("a<a/>", 0);
        wrong(">", 0);
        wrong("&lt;a/>", 0);
        wrong("", 0);
        wrong("   ", 3);
        wrong("<!DOCTYPE a><a/>", 1);
        wrong("<!-- --><a/>", 1);
    }

    private static void ends() {
        fine("<a/> \t\r\n", 1);
        fine("<a></a>", 1);
        wrong("<a/>x", 4);
        wrong("<a/> x", 5);
        wrong("<a/><a/>", 4);
        wrong("<a></a><b></b>", 7);
        wrong("<a/>&#32;", 4);
        wrong("<a></a></a>", 7);
        wrong("<a/></a>", 4);
        String whole = "<a b=\"c&lt;\" >d<e/>f&#65;<g h=\"i\"></g ></a>";
        fine(whole, 3);
        for (int n = 0; n < whole.length(); n++) {
            String part = whole.substring(0, n);
            int place = n;
            int open = part.lastIndexOf('&');
            boolean reference = open >= 0 && part.indexOf(';', open) < 0;
            Check.same("its first " + n, looked(Check.utf8(part)), "at " + (reference ? open : place));
        }
    }

    private static void names() {
        for (int c = 33; c < 128; c++) {
            boolean first = c >= 'a' && c <= 'z' || c >= 'A' && c <= 'Z' || c == '_';
            boolean later = first || c >= '0' && c <= '9' || c == '-' || c == '.' || c == ':';
            String sign = "" + (char) c;
            if (first) {
                fine("<" + sign + "/>", 1);
                fine("<a " + sign + "=\"\"/>", 1);
            } else {
                wrong("<" + sign + "/>", 1);
                wrong("<a " + sign + "=\"\"/>", c == '/' ? 4 : c == '>' ? 9 : 3);
            }
            if (later) {
                fine("<a" + sign + "/>", 1);
                fine("<a b" + sign + "=\"\"/>", 1);
            } else if (c != '/' && c != '>') {
                wrong("<a" + sign + "/>", 2);
            }
            if (!later && c != '=') {
                wrong("<a b" + sign + "=\"\"/>", 4);
            }
        }
        wrong("<a//>", 3);
        wrong("<a>/>", 5);
        wrong("<é/>", 1);
        wrong("<aé/>", 2);
        wrong("< a/>", 1);
    }

    private static void lengthsOfNames() {
        String most = "n".repeat(30);
        fine("<" + most + "/>", 1);
        wrong("<" + most + "n/>", 31);
        wrong("<" + most + "nn/>", 31);
        wrong("<" + most + "-/>", 31);
        fine("<" + most + "></" + most + ">", 1);
        wrong("<" + most + "></" + most + "n>", 64);
        fine("<a " + most + "=\"\"/>", 1);
        wrong("<a " + most + "n=\"\"/>", 33);
        fine("<a " + most + "=\"\" " + most.substring(1) + "=\"\"/>", 1);
    }

    private static void attributes() {
        fine("<a b=\"\" c=\"\"/>", 1);
        fine("<a\tb=\"\"\n\rc=\"\"   />", 1);
        wrong("<a b=\"\"c=\"\"/>", 7);
        wrong("<ab=\"\"/>", 3);
        wrong("<a b =\"\"/>", 4);
        wrong("<a b= \"\"/>", 5);
        wrong("<a b/>", 4);
        wrong("<a b=/>", 5);
        wrong("<a b='c'/>", 5);
        wrong("<a b=c/>", 5);
        wrong("<a b=\"\" b=\"\"/>", 8);
        wrong("<a b=\"\" c=\"\" b=\"\"/>", 13);
        wrong("<a b=\"\" c=\"\" c=\"\"/>", 13);
        fine("<a b=\"\" B=\"\" bb=\"\" b.=\"\"/>", 1);
        fine("<a ab=\"\" b=\"\"/>", 1);
        fine("<a a=\"\"/>", 1);
        fine("<a b=\"b=\" c=\"b\"/>", 1);
        fine("<a b=\" c=\" c=\"b\"/>", 1);
        fine("<a b=\"\"><a b=\"\"/></a>", 2);
        wrong("<a b=\"\" b/>", 8);
        wrong("<a / >", 4);
        wrong("<a/ >", 3);
        fine("<a b=\"\"></a>", 1);
    }

    private static void values() {
        fine("<a b=\">'/=\n\t\"/>", 1);
        wrong("<a b=\"<\"/>", 6);
        wrong("<a b=\"c<\"/>", 7);
        wrong("<a b=\"&\"/>", 6);
        wrong("<a b=\"c&d\"/>", 7);
        wrong("<a b=\"c", 7);
        wrong("<a b=\"", 6);
        wrong("<a b=", 5);
        wrong("<a b", 4);
        wrong("<a b=\"\"", 7);
        fine("<a b=\"&amp;&lt;&gt;&quot;&apos;&#1114111;&#x10FFFF;\"/>", 1);
        wrong("<a b=\"&nbsp;\"/>", 6);
        wrong("<a b=\"\"\"/>", 7);
    }

    private static void references() {
        String[] good = {"&amp;", "&lt;", "&gt;", "&quot;", "&apos;", "&#9;", "&#10;", "&#13;", "&#32;", "&#1114111;", "&#x9;",
            "&#XA;", "&#x10FFFF;", "&#0000065;", "&#x000041;", "&#55295;", "&#57344;", "&#xD7FF;", "&#xE000;", "&#65533;",
            "&#65536;", "&#127;", "&#xabcde;", "&#xABCDE;", "&#xF0fF0;"};
        for (String one : good) {
            fine("<a>" + one + "</a>", 1);
            fine("<a b=\"" + one + "\"/>", 1);
        }
        String[] bad = {"&;", "&", "&amp", "&Amp;", "&AMP;", "& amp;", "&amp ;", "&nbsp;", "&copy;", "&reg;", "&auml;", "&ouml;",
            "&uuml;", "&Auml;", "&Ouml;", "&Uuml;", "&szlig;", "&eacute;", "&euro;", "&hellip;", "&mdash;", "&ndash;", "&#;",
            "&#x;", "&#X;", "&#0;", "&#x0;", "&#1;", "&#8;", "&#11;", "&#12;", "&#14;", "&#31;", "&#x1F;", "&#55296;", "&#57343;",
            "&#xD800;", "&#xDFFF;", "&#65534;", "&#65535;", "&#xFFFE;", "&#xFFFF;", "&#1114112;", "&#x110000;", "&#9999999;",
            "&#xFFFFFF;", "&#00000065;", "&#x0000041;", "&#12345678;", "&#a;", "&#xg;", "&#-1;", "&#6 5;", "&#65", "&x;"};
        for (String one : bad) {
            wrong("<a>b" + one + "</a>", 4);
            wrong("<a b=\"c" + one + "\"/>", 7);
        }
    }

    private static byte[] with(int... signs) {
        byte[] b = Check.utf8("<a>x</a>");
        byte[] all = java.util.Arrays.copyOf(b, b.length + signs.length);
        System.arraycopy(b, 4, all, 4 + signs.length, 4);
        for (int k = 0; k < signs.length; k++) {
            all[4 + k] = (byte) signs[k];
        }
        return all;
    }

    private static void characters() {
        for (int c = 0; c < 128; c++) {
            boolean good = c == 9 || c == 10 || c == 13 || c >= 32 && c != '<' && c != '&';
            Check.same("character " + c, looked(with(c)), good ? "1 elements" : c == '<' ? "at 5" : "at 4");
        }
        int[][] good = {{194, 128}, {223, 191}, {224, 160, 128}, {237, 159, 191}, {238, 128, 128}, {239, 191, 189},
            {240, 144, 128, 128}, {244, 143, 191, 191}};
        for (int[] row : good) {
            Check.same("a character of " + row.length + " bytes", looked(with(row)), "1 elements");
        }
        int[][] bad = {{128}, {191}, {192, 128}, {193, 191}, {194}, {194, 'y'}, {224, 159, 191}, {237, 160, 128}, {237, 191, 191},
            {239, 191, 190}, {239, 191, 191}, {240, 143, 191, 191}, {244, 144, 128, 128}, {245, 128, 128, 128}, {255}, {226, 130}};
        for (int[] row : bad) {
            Check.same("none: " + java.util.Arrays.toString(row), looked(with(row)), "at 4");
        }
        Check.same("behind another", looked(with(195, 169, 1)), "at 6");
        fine("<a>\"'>]]></a>", 1);
    }

    private static void endTags() {
        fine("<a></a \t\r\n>", 1);
        wrong("<a></a b>", 7);
        wrong("<a></a/>", 6);
        wrong("<a></ a>", 5);
        wrong("<a></b>", 5);
        wrong("<a></A>", 5);
        wrong("<ab></a>", 6);
        wrong("<a></ab>", 5);
        wrong("<a></>", 5);
        wrong("<a></1>", 5);
        wrong("<a><b></a></b>", 8);
        fine("<a><b></b></a>", 2);
        wrong("<a><b/></b></a>", 9);
        wrong("<a>< /a>", 4);
        wrong("<a></a", 6);
        wrong("<a></", 5);
        wrong("<a><", 4);
        wrong("<a>", 3);
    }

    private static void depth() {
        fine("<a>".repeat(60) + "</a>".repeat(60), 60);
        fine("<a>".repeat(59) + "<b/><c/><d></d>" + "</a>".repeat(59), 62);
        wrong("<a>".repeat(61) + "</a>".repeat(61), 180);
        wrong("<a>".repeat(60) + "x<b/>" + "</a>".repeat(60), 181);
        fine("<r>" + ("<a>".repeat(59) + "</a>".repeat(59)).repeat(3) + "</r>", 178);
    }

    private static void number() {
        fine("<a>" + "<b/>".repeat(2998) + "</a>", 2999);
        fine("<a>" + "<b/>".repeat(2999) + "</a>", 3000);
        wrong("<a>" + "<b/>".repeat(3000) + "</a>", 3 + 4 * 2999);
        wrong("<a>" + "<b/>".repeat(2999) + "x<b>", 3 + 4 * 2999 + 1);
        fine("<a>" + "<b></b>".repeat(2999) + "</a>", 3000);
    }

    private static void whatIsKept() {
        BookWorks x = new BookWorks();
        Check.outputOf(x, Check.utf8("kept"));
        Check.tape(x, "<a><b/></a>");
        Check.same("xml()", x.xml(), 2);
        Check.tapeIs("the tape stays", x, Check.utf8("<a><b/></a>"));
        Check.same("the output stays", new String(Check.output(x)), "kept");
        x.cut(6);
        boolean thrown = false;
        try {
            x.xml();
        } catch (IllegalArgumentException e) {
            thrown = true;
        }
        Check.isTrue("it throws", thrown);
        Check.same("fault(0)", x.fault(0), 8);
        Check.same("fault(2)", x.fault(2), 6);
        Check.tapeIs("the tape stays, too", x, Check.utf8("<a><b/"));
        Check.same("the output stays, too", new String(Check.output(x)), "kept");
        BookWorks y = Check.laidOut(5, 16, "<p>a</p>");
        Check.tape(y, "<a>");
        try {
            y.xml();
        } catch (IllegalArgumentException e) {
            Check.same("a book that was read stays", y.about(6) * 10 + y.about(7), 11);
        }
        Check.tape(y, "<a/>");
        Check.same("xml() behind read()", y.xml(), 1);
        Check.same("its letter stays", y.cell(0, 0, 0), 'a');
    }
}
