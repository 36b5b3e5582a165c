/** Promises 23 and 25: xml and its faults. */
public final class XmlTest {
    private static final String X = "<?xml version=\"1.0\" encoding=\"UTF-8\"?>";

    public static void main(String[] args) {
        elements();
        wrongOnes();
        wrongCharacters();
        limits();
        Check.finish();
    }

    private static String looked(BookWorks x) {
        try {
            int n = x.xml();
            Check.same("fault(0)", x.fault(0), 0);
            Check.same("fault(1)", x.fault(1), -1);
            Check.same("fault(2)", x.fault(2), -1);
            return n + " elements";
        } catch (IllegalArgumentException e) {
            Check.same("fault(0)", x.fault(0), 8);
            Check.same("fault(1)", x.fault(1), -1);
            return "at " + x.fault(2);
        }
    }

    private static void is(String text, String due) {
        BookWorks x = new BookWorks();
        Check.tape(x, text);
        Check.same("xml of " + text, looked(x), due);
        Check.same("the tape stays", x.about(0), Check.utf8(text).length);
    }

    private static void elements() {
        is("<a/>", "1 elements");
        is(" \n\t\r<a/>\n ", "1 elements");
        is(X + "<a/>", "1 elements");
        is(X + "\n<a></a >\n", "1 elements");
        is("<a b=\"\" c = \"\"/>", "at 9");
        is("<a b=\"c>d'\" _-.:9=\"&lt;\n\" />", "1 elements");
        is("<a><b/>x<b>y</b>&amp;&lt;&gt;&quot;&apos;&#65;&#x41;&#X41;]]></a>", "3 elements");
        is("<A><a/></A>", "2 elements");
        is("<a>\"</a>", "1 elements");
    }

    private static void wrongOnes() {
        is("", "at 0");
        is("  ", "at 2");
        is("x", "at 0");
        is("<", "at 1");
        is("<a", "at 2");
        is("<a ", "at 3");
        is("<1/>", "at 1");
        is("</a>", "at 1");
        is("<a>", "at 3");
        is("<a><", "at 4");
        is("<a></", "at 5");
        is("<a></a", "at 6");
        is("<a></b>", "at 5");
        is("<ab></a>", "at 6");
        is("<a></ab>", "at 5");
        is("<a></>", "at 5");
        is("<a></ a>", "at 5");
        is("<a></a x>", "at 7");
        is("<a/ >", "at 3");
        is("<a/", "at 3");
        is("<a /x>", "at 4");
        is("<a b>", "at 4");
        is("<a b=c>", "at 5");
        is("<a b='c'/>", "at 5");
        is("<a b=\"c", "at 7");
        is("<a b=\"<\"/>", "at 6");
        is("<a b=\"&\"/>", "at 6");
        is("<a b=\"\"c=\"\"/>", "at 7");
        is("<a b=\"\" c=\"\" b=\"\"/>", "at 13");
        is("<a/><b/>", "at 4");
        is("<a/>x", "at 4");
        is("<a><!-- --></a>", "at 4");
        is("<a><?x?></a>", "at 4");
        is("<a>&nbsp;</a>", "at 3");
        is("<a>&amp</a>", "at 3");
        is("<a>&#0;</a>", "at 3");
        is("<a>&#xD800;</a>", "at 3");
        is("<a>&#1114112;</a>", "at 3");
        is("<a>&#12345678;</a>", "at 3");
        is("<a>&#x1234567;</a>", "at 3");
        is("<a>&#31;</a>", "at 3");
        is("<a>&#65535;</a>", "at 3");
        is("<a>&#9;&#1114111;</a>", "1 elements");
        is("<a b=\"&#1;\"/>", "at 6");
        is(" " + X + "<a/>", "at 2");
        is(X + X, "at 39");
    }

    private static void wrongCharacters() {
        BookWorks x = new BookWorks();
        Check.tape(x, Check.bytes('<', 'a', '>', 195, '<', '/', 'a', '>'));
        Check.same("no UTF-8", looked(x), "at 3");
        Check.tape(x, Check.bytes('<', 'a', '>', 195, 169, 1, '<', '/', 'a', '>'));
        Check.same("forbidden", looked(x), "at 5");
        Check.tape(x, Check.bytes('<', 'a', '>', 239, 191, 190, '<', '/', 'a', '>'));
        Check.same("65534", looked(x), "at 3");
        Check.tape(x, Check.bytes('<', 'a', ' ', 'b', '=', '"', 255, '"', '/', '>'));
        Check.same("no UTF-8 in a value", looked(x), "at 6");
        Check.tape(x, Check.bytes('<', 195, 169, '/', '>'));
        Check.same("a name above 127", looked(x), "at 1");
        is("<a b=\"é\">é</a>", "1 elements");
    }

    private static void limits() {
        String thirty = "n".repeat(30);
        is("<" + thirty + "/>", "1 elements");
        is("<" + thirty + "n/>", "at 31");
        is("<a " + thirty + "n=\"\"/>", "at 33");
        is("<a>".repeat(60) + "</a>".repeat(60), "60 elements");
        is("<a>".repeat(61) + "</a>".repeat(61), "at 180");
        is("<a>".repeat(60) + "<a/>" + "</a>".repeat(60), "at 180");
        is("<a>" + "<b/>".repeat(2999) + "</a>", "3000 elements");
        is("<a>" + "<b/>".repeat(3000) + "</a>", "at " + (3 + 4 * 2999));
    }
}
