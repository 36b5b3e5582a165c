/** Promises 11 to 13 for inlines: what a leaf's text becomes. */
public final class InlinesTest {
    public static void main(String[] args) {
        breaksAndEscapes();
        codings();
        selfLinks();
        references();
        runs();
        links();
        linksByLabels();
        numbers();
        Check.finish();
    }

    private static void is(String leaf, String due) {
        Check.same("tree of " + leaf, Check.treeOf(leaf), "par(" + due + ")");
    }

    /** The same, in a chapter that defines x and y z. */
    private static void defined(String leaf, String due) {
        Check.same("tree of " + leaf, Check.treeOf("[x]: u 't'\n[y z]: v\n\n" + leaf), "par(" + due + ")");
    }

    private static void breaksAndEscapes() {
        is("a\nb", "|a| soft |b|");
        is("a \nb", "|a| soft |b|");
        is("a  \nb", "|a| hard |b|");
        is("a     \n   b", "|a| hard |b|");
        is("a\\\nb", "|a| hard |b|");
        is("a  \\\nb", "|a  | hard |b|");
        is("a&#32; \nb", "|a | soft |b|");
        is("*a*  \nb", "em(|a|) hard |b|");
        is("a\\", "|a\\|");
        is("\\*a\\* \\a \\\\ \\é \\~", "|*a* \\a \\ \\é ~|");
        is("`a\\`b", "coding|a\\| |b|");
    }

    private static void codings() {
        is("`a`", "coding|a|");
        is("`` a`b ``", "coding|a`b|");
        is("`  a `", "coding| a|");
        is("`  `", "coding|  |");
        is("` a`", "coding| a|");
        is("`a\nb`", "coding|a b|");
        is("``a`", "|``a`|");
        is("`a``b`", "coding|a``b|");
        is("*a`*`", "|*a| coding|*|");
        is("`\n`", "coding| |");
    }

    private static void selfLinks() {
        is("<ab:c&amp;*>", "link|ab:c&amp;*|(|ab:c&amp;*|)");
        is("<ab:>", "link|ab:|(|ab:|)");
        is("a<x.y+z-1@b-c.d>", "|a| link|mailto:x.y+z-1@b-c.d|(|x.y+z-1@b-c.d|)");
        is("<_@1>", "link|mailto:_@1|(|_@1|)");
        is("<1a:b", "|<1a:b|");
        is("< ab:c>", "|< ab:c>|");
        is("<@b> <1@> <1@-b> <1@b->", "|<@b> <1@> <1@-b> <1@b->|");
        Check.same("a scheme of 32", Check.error("<" + "a".repeat(32) + ":>"), "fine");
        Check.same("a scheme of 33", Check.error("<" + "a".repeat(33) + ":>"), "3 0 0");
        Check.same("a scheme of 1", Check.error("<a:b>"), "3 0 0");
        Check.same("a space in it", Check.error("<ab:c d>"), "3 0 0");
        is("[a <ab:c> b](d)", "|[a | link|ab:c|(|ab:c|) | b](d)|");
        is("![a <b@c> b](d)", "image|d|(|a | link|mailto:b@c|(|b@c|) | b|)");
    }

    private static void references() {
        is("&amp;&lt;&gt;&quot;&apos;&nbsp;", "|&<>\"'\u00A0|");
        is("&copy;&reg;&auml;&ouml;&uuml;&Auml;&Ouml;&Uuml;&szlig;&eacute;",
            "|\u00A9\u00AE\u00E4\u00F6\u00FC\u00C4\u00D6\u00DC\u00DF\u00E9|");
        is("&euro;&hellip;&mdash;&ndash;", "|\u20AC\u2026\u2014\u2013|");
        is("&Amp; &amp &; &x;", "|&Amp; &amp &; &x;|");
        is("&#65;&#x41;&#X4a;&#0000065;&#x000041;", "|AAJAA|");
        is("&#00000065; &#x0000041; &#; &#x; &#a; &#xg;", "|&#00000065; &#x0000041; &#; &#x; &#a; &#xg;|");
        is("&#0;&#xD800;&#57343;&#1114112;&#x10FFFF;", "|\uFFFD\uFFFD\uFFFD\uFFFD\uDBFF\uDFFF|");
        is("a&#10;b&#9;", "|a\nb\t|");
        is("&#42;a&#42;", "|*a*|");
    }

    private static void runs() {
        is("*a* _b_ **c** __d__", "em(|a|) | | em(|b|) | | strong0(|c|) | | strong1(|d|)");
        is("***a***", "em(strong0(|a|))");
        is("*a", "|*a|");
        is("a*b*c", "|a| em(|b|) |c|");
        is("a_b_c", "|a_b_c|");
        is("b * a*", "|b * a*|");
        is("a * b * c", "|a * b * c|");
        is("*(a)*", "em(|(a)|)");
        is("a*\"b\"*", "|a*\"b\"*|");
        is("_(a)_", "em(|(a)|)");
        is("(_a_)", "|(| em(|a|) |)|");
        is("*\u00A0a*", "|*\u00A0a*|");
        is("a*\u2010*", "|a*\u2010*|");
        is("*a **b* c**", "em(|a | em(em(|b|) | c|))");
        is("**a *b** c*", "em(em(|a | em(|b|)) | c|)");
        is("*a _b* c_", "em(|a _b|) | c_|");
        is("**a*", "|*| em(|a|)");
        is("*a**", "em(|a|) |*|");
        is("a**b*c", "|a**b*c|");
        is("*a**b*", "em(|a**b|)");
        is("**a*b**", "strong0(|a*b|)");
        is("***a**b*", "em(strong0(|a|) |b|)");
        is("*a **b***", "em(|a | strong0(|b|))");
        is("a***b***c", "|a| em(strong0(|b|)) |c|");
        is("*a\n*b*", "|*a| soft em(|b|)");
        is("****a****", "strong0(strong1(|a|))");
        is("__a __b__ c__", "strong0(|a | strong1(|b|) | c|)");
    }

    private static void links() {
        is("[a](b)", "link|b|(|a|)");
        is("[a]( b\n\"c\" )", "link|b|'c'(|a|)");
        is("[a](<b c> 'd' )", "link|b c|'d'(|a|)");
        is("[a](<>)", "link||(|a|)");
        is("[a]()", "link||(|a|)");
        is("[a](<b\\>c>)", "link|b>c|(|a|)");
        is("[a](b(c)d)e", "link|b(c)d|(|a|) |e|");
        is("[a](b\\)c)", "link|b)c|(|a|)");
        is("[a](b c)", "|[a](b c)|");
        is("[a](b \"c)", "|[a](b \"c)|");
        is("[a](b (c\\(d))", "link|b|'c(d'(|a|)");
        is("[a](\"b\")", "link|\"b\"|(|a|)");
        is("[a](b \"\")", "link|b|(|a|)");
        is("[a] (b)", "|[a] (b)|");
        is("[*a*](b)", "link|b|(em(|a|))");
        is("*[a*](b)", "|*| link|b|(|a*|)");
        is("[*a](b)*", "link|b|(|*a|) |*|");
        is("*a [b](c) d*", "em(|a | link|c|(|b|) | d|)");
        is("[a [b](c) d](e)", "|[a | link|c|(|b|) | d](e)|");
        is("![a [b](c) d](e)", "image|e|(|a | link|c|(|b|) | d|)");
        is("[a ![b](c) d](e)", "link|e|(|a | image|c|(|b|) | d|)");
        is("![a]", "|![a]|");
        is("!\\[a](b)", "|![a](b)|");
        is("[a`](b)`", "|[a| coding|](b)|");
        is("[](b)", "link|b|");
        is("[a](b)](c)", "link|b|(|a|) |](c)|");
        is("[a](&#0;&amp;)", "link|\uFFFD&|(|a|)");
        is("]", "|]|");
        is("[a", "|[a|");
    }

    private static void linksByLabels() {
        defined("[x]", "link|u|'t'(|x|)");
        defined("[x][]", "link|u|'t'(|x|)");
        defined("[a *b*][X]", "link|u|'t'(|a | em(|b|))");
        defined("[y\nZ]", "link|v|(|y| soft |Z|)");
        defined("![x]", "image|u|'t'(|x|)");
        defined("[x][q]", "|[x][q]|");
        defined("[x](", "link|u|'t'(|x|) |(|");
        defined("[x](q", "link|u|'t'(|x|) |(q|");
        defined("[x](q)", "link|q|(|x|)");
        defined("[x] [y z]", "link|u|'t'(|x|) | | link|v|(|y z|)");
        defined("[x][y z][x]", "link|v|(|x|) link|u|'t'(|x|)");
        defined("[q][x][y z]", "link|u|'t'(|q|) link|v|(|y z|)");
        defined("[q][]", "|[q][]|");
        defined("[a [x]][y z]", "|[a | link|u|'t'(|x|) |]| link|v|(|y z|)");
        defined("[![x]][y z]", "link|v|(image|u|'t'(|x|))");
        defined("[x[q]", "|[x[q]|");
        defined("[[x]]", "|[| link|u|'t'(|x|) |]|");
        defined("[\\x]", "|[\\x]|");
        defined("[x][ ]", "link|u|'t'(|x|) |[ ]|");
        defined("[q][x](r)", "link|u|'t'(|q|) |(r)|");
        defined("[q][w](r)", "|[q]| link|r|(|w|)");
    }

    private static void numbers() {
        BookWorks x = Check.book("**a** ![**b**](c) **d**", "# **e**");
        Check.same("strongs of the first", Check.tree(x, 0),
            "par(strong0(|a|) | | image|c|(strong-1(|b|)) | | strong1(|d|))");
        Check.same("strong of the second", Check.tree(x, 1), "head1(strong2(|e|))");
        Check.same("strongs", x.about(4), 3);
        BookWorks y = Check.book("[a](#b) [c](c2.xhtml#b) [d](#e)\n\n# e", "# b\n\n[f](#b)");
        Check.same("targets as they go into the book", Check.tree(y, 0),
            "par(link|c2.xhtml#b|(|a|) | | link|c2.xhtml#b|(|c|) | | link|#e|(|d|)) head1(|e|)");
        Check.same("a target in its own chapter", Check.tree(y, 1), "head1(|b|) par(link|#b|(|f|))");
        String[] many = new String[12];
        java.util.Arrays.fill(many, "a");
        many[0] = "![[a](#b)](c) [a](#b)";
        many[11] = "# b";
        Check.same("in the twelfth chapter", Check.tree(Check.book(many), 0),
            "par(image|c|(link|#b|(|a|)) | | link|c12.xhtml#b|(|a|))");
    }
}
