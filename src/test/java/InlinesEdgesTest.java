/** INLINES at their boundaries. */
public final class InlinesEdgesTest {
    public static void main(String[] args) {
        endsOfLines();
        escapes();
        codings();
        schemes();
        mails();
        raws();
        numbersOfReferences();
        namesOfReferences();
        signsAroundRuns();
        leaning();
        lengthsOfRuns();
        passedOver();
        plainLinks();
        labelsOfLinks();
        brackets();
        deadBrackets();
        runsAndBrackets();
        Check.finish();
    }

    private static void is(String leaf, String due) {
        Check.same("tree of " + leaf, Check.treeOf(leaf), "par(" + due + ")");
    }

    private static void text(String leaf) {
        is(leaf, "|" + leaf + "|");
    }

    private static void defined(String leaf, String due) {
        Check.same("tree of " + leaf, Check.treeOf("[x]: u 't'\n[y z]: v\n\n" + leaf), "par(" + due + ")");
    }

    private static void error(String leaf, String due) {
        Check.same("error of " + leaf, Check.error(leaf), due);
    }

    private static void endsOfLines() {
        is("a\nb", "|a| soft |b|");
        is("a \nb", "|a| soft |b|");
        is("a  \nb", "|a| hard |b|");
        is("a   \nb", "|a| hard |b|");
        is("a\\\nb", "|a| hard |b|");
        is("a\\ \nb", "|a\\| soft |b|");
        is("a\\  \nb", "|a\\| hard |b|");
        is("a\\\\\nb", "|a\\| soft |b|");
        is("a \\\nb", "|a | hard |b|");
        is("a&#32;&#32;\nb", "|a  | soft |b|");
        is("a&#32;  \nb", "|a | hard |b|");
        is("`a`  \nb", "coding|a| hard |b|");
        is("`a  \nb`", "coding|a   b|");
        is("[a  \nb](c)  \nd", "link|c|(|a| hard |b|) hard |d|");
        is("*a  \nb*", "em(|a| hard |b|)");
        is("a\tb\t\nc", "|a   b| hard |c|");
        is("a  ", "|a|");
        is("a\\", "|a\\|");
        is("[  \na", "|[| hard |a|");
        is("**  \na", "|**| hard |a|");
    }

    private static void escapes() {
        for (int c = 32; c < 128; c++) {
            boolean point = c >= 33 && c <= 47 || c >= 58 && c <= 64 || c >= 91 && c <= 96 || c >= 123 && c <= 126;
            is("x\\" + (char) c + "y", "|x" + (point ? "" : "\\") + (char) c + "y|");
        }
        text("\\é\\\u00A1\\\u2010");
        is("\\\\*a*", "|\\| em(|a|)");
        is("\\[a](b)", "|[a](b)|");
        is("[a\\](b)", "|[a](b)|");
        is("\\!\\[a](b)", "|![a](b)|");
        is("!\\[a](b)", "|![a](b)|");
        is("\\![a](b)", "|!| link|b|(|a|)");
        is("\\<b>", "|<b>|");
        is("\\&amp;", "|&amp;|");
        is("\\`a`", "|`a`|");
        is("\\``a`", "|`| coding|a|");
    }

    private static void codings() {
        is("`a`", "coding|a|");
        is("``a``", "coding|a|");
        text("`a``");
        text("``a`");
        is("`a``b`", "coding|a``b|");
        is("``a`b``", "coding|a`b|");
        is("```a``b```", "coding|a``b|");
        text("`");
        text("``");
        is("` a `", "coding|a|");
        is("` a`", "coding| a|");
        is("`a `", "coding|a |");
        is("`  a  `", "coding| a |");
        is("` `", "coding| |");
        is("`  `", "coding|  |");
        is("`   `", "coding|   |");
        is("`\na\n`", "coding|a|");
        is("`a\nb`", "coding|a b|");
        is("`\u00A0a\u00A0`", "coding|\u00A0a\u00A0|");
        is("`a\\`b`", "coding|a\\| |b`|");
        is("`*a*` `<b>` `&amp;`", "coding|*a*| | | coding|<b>| | | coding|&amp;|");
        is("*a `b* c`", "|*a | coding|b* c|");
        is("[a `b](c)`", "|[a | coding|b](c)|");
        is("``a` b`` c`", "coding|a` b| | c`|");
        is("`a`` b`", "coding|a`` b|");
    }

    private static void selfLink(String target) {
        is("<" + target + ">", "link|" + target + "|(|" + target + "|)");
    }

    private static void schemes() {
        selfLink("ab:");
        selfLink("a1:b");
        selfLink("A+-.z9:b");
        selfLink("a" + "b".repeat(31) + ":c");
        error("<a" + "b".repeat(32) + ":c>", "3 0 0");
        error("<a:b>", "3 0 0");
        error("<a_b:c>", "3 0 0");
        error("<ab :c>", "3 0 0");
        text("<1a:b>");
        text("<+a:b>");
        selfLink("ab:!");
        error("<ab:c d>", "3 0 0");
        error("<ab:c\nd>", "3 0 0");
        error("<ab:c<d>", "3 0 0");
        error("<ab:c\u007Fd>", "3 0 0");
        selfLink("ab:c\u0080\u00A0~");
        selfLink("ab:*c*_d_[e](f)`g`\\*");
        text("<ab:c");
        is("a<ab:c>d", "|a| link|ab:c|(|ab:c|) |d|");
        is("<ab:c>>", "link|ab:c|(|ab:c|) |>|");
    }

    private static void mail(String address) {
        is("<" + address + ">", "link|mailto:" + address + "|(|" + address + "|)");
    }

    private static void mails() {
        mail("a@b");
        mail("a.-_+9@b");
        mail("+@b");
        mail("1@1.-_+1");
        mail("a@bb");
        text("<@b>");
        error("<a@>", "3 0 0");
        text("<1@>");
        text("<1@.b>");
        text("<1@b.>");
        text("<1@-b>");
        text("<1@b->");
        text("<1@_>");
        text("<1@b_>");
        text("<1@b+>");
        text("<1@b@c>");
        text("<1!@b>");
        text("<1@b!c>");
        text("<1@b");
        text("<1@é>");
        text("<é@b>");
        text("<1 @b>");
    }

    private static void raws() {
        error("<b>", "3 0 0");
        error("<Z>", "3 0 0");
        error("</b>", "3 0 0");
        error("<!>", "3 0 0");
        error("<?>", "3 0 0");
        error("<b\n\\>", "3 0 0");
        error("<b `>`", "3 0 0");
        text("<b");
        text("</b");
        text("<!");
        text("<?");
        text("<");
        text("</");
        text("<>");
        text("</>");
        text("</1>");
        text("< b>");
        text("<1>");
        text("<@>");
        text("<[>");
        text("<`>");
        text("<{>");
        text("</@>");
        text("</[>");
        text("<é>");
        text("a> <b");
        error("a\n\nb\n\n<b>", "3 0 2");
        error("***\n\n    a\n\n# b\n\n- <b>", "3 0 1");
        is("[a](<b>)", "link|b|(|a|)");
    }

    private static void numbersOfReferences() {
        is("&#1114111;", "|\uDBFF\uDFFF|");
        is("&#1114112;", "|\uFFFD|");
        is("&#9999999;", "|\uFFFD|");
        text("&#10000000;");
        is("&#0000033;", "|!|");
        text("&#00000033;");
        is("&#x10FFFF;", "|\uDBFF\uDFFF|");
        is("&#x110000;", "|\uFFFD|");
        is("&#xFFFFFE;", "|\uFFFD|");
        is("&#x000021;", "|!|");
        text("&#x0000021;");
        is("&#0;", "|\uFFFD|");
        is("&#x0;", "|\uFFFD|");
        is("&#55295;&#55296;&#57343;&#57344;", "|\uD7FF\uFFFD\uFFFD\uE000|");
        is("&#xabcdef;&#xABCDEF;", "|\uFFFD\uFFFD|");
        is("&#xaf;&#xAF;&#Xa0;&#XfA;", "|\u00AF\u00AF\u00A0\u00FA|");
        text("&#xg1;&#xG1;&#x@;&#x`;&#x/;&#x:;");
        text("&#1a;&#/;&#:;");
        text("&#;&#x;&#X;&#");
        text("&#33");
        text("&#x33");
        text("&#x");
        text("&");
        for (int c = 0; c < 34; c++) {
            boolean fine = c == 0 || c == 9 || c == 10 || c == 13 || c > 31;
            error("a&#" + c + ";b", fine ? "fine" : "2 0 0");
        }
        error("&#65533;", "fine");
        error("&#65534;", "2 0 0");
        error("&#65535;", "2 0 0");
        error("&#65536;", "fine");
        error("&#xFFFE;", "2 0 0");
        error("# a\n\n***\n\nb\n\n&#x1;", "2 0 2");
        is("a&#32;b&#10;c&#9;d&#13;e", "|a b\nc\td\re|");
        is("&#42;a*", "|*a*|");
        is("&#91;a](b)", "|[a](b)|");
    }

    private static void namesOfReferences() {
        String[] names = {"amp", "lt", "gt", "quot", "apos", "nbsp", "copy", "reg", "auml", "ouml", "uuml", "Auml",
            "Ouml", "Uuml", "szlig", "eacute", "euro", "hellip", "mdash", "ndash"};
        int[] told = {38, 60, 62, 34, 39, 160, 169, 174, 228, 246, 252, 196, 214, 220, 223, 233, 8364, 8230, 8212, 8211};
        for (int k = 0; k < names.length; k++) {
            String name = names[k];
            is("a&" + name + ";b", "|a" + (char) told[k] + "b|");
            text("a&" + name + "b");
            text("a&" + name + "x;b");
            text("a&" + name.substring(0, name.length() - 1) + ";b");
            text("a&" + name + " ;b");
            text("a& " + name + ";b");
        }
        text("&AMP;&Lt;&Copy;&aUml;&Eacute;");
        text("&hellips;&hellipse;");
        is("&amp;amp;", "|&amp;|");
        is("&&amp;", "|&&|");
    }

    private static void signsAroundRuns() {
        int[] signs = {33, 34, 35, 36, 37, 39, 40, 41, 43, 44, 45, 46, 47, 48, 57, 58, 59, 61, 63, 64, 65, 90, 94, 97, 122, 123,
            124, 125, 126, 127, 128, 159, 160, 161, 162, 166, 167, 168, 170, 171, 172, 181, 182, 183, 184, 186, 187, 188,
            190, 191, 192, 8207, 8208, 8209, 8240, 8285, 8286, 8287, 12289, 65281};
        for (int c : signs) {
            String sign = new String(Character.toChars(c));
            boolean ascii = c >= 33 && c <= 47 || c >= 58 && c <= 64 || c >= 91 && c <= 96 || c >= 123 && c <= 126;
            boolean point = ascii || c == 161 || c == 167 || c == 171 || c == 182 || c == 183 || c == 187 || c == 191
                || c >= 8208 && c <= 8286;
            boolean stops = point || c == 160;
            is("a*" + sign + "b*", stops ? "|a*" + sign + "b*|" : "|a| em(|" + sign + "b|)");
            is("*a" + sign + "*b", stops ? "|*a" + sign + "*b|" : "em(|a" + sign + "|) |b|");
            is(sign + "*.b*", stops ? "|" + sign + "| em(|.b|)" : "|" + sign + "*.b*|");
            is("*b.*" + sign, stops ? "em(|b.|) |" + sign + "|" : "|*b.*" + sign + "|");
            is(sign + "_b_", stops ? "|" + sign + "| em(|b|)" : "|" + sign + "_b_|");
            is("_b_" + sign, stops ? "em(|b|) |" + sign + "|" : "|_b_" + sign + "|");
        }
    }

    private static void leaning() {
        is("*a*", "em(|a|)");
        text("x * a*");
        text("*a *");
        text("*\u00A0a*");
        text("*a\u00A0*");
        is("*a\n*", "|*a| soft |*|");
        is("a*b*c", "|a| em(|b|) |c|");
        text("a_b_c");
        is("_a_b_", "em(|a_b|)");
        text("_a_b");
        text("a_b_");
        is("a._b_.c", "|a.| em(|b|) |.c|");
        is("(_a_)", "|(| em(|a|) |)|");
        is("_(a)_", "em(|(a)|)");
        text("a_\"b\"_");
        text("a*\"b\"*");
        is(".*a*", "|.| em(|a|)");
        is("**(a)**", "strong0(|(a)|)");
        text("a**(b)**c");
        text("__a__b");
        is("__a__", "strong0(|a|)");
        is("-_(a)_", "|-| em(|(a)|)");
        is("*a*.", "em(|a|) |.|");
        is("&#32;*a*", "| | em(|a|)");
        is("a&#32;*.b*", "|a | em(|.b|)");
        is("*a&#32;*", "em(|a |)");
    }

    private static void lengthsOfRuns() {
        is("**a**", "strong0(|a|)");
        is("***a***", "em(strong0(|a|))");
        is("****a****", "strong0(strong1(|a|))");
        is("*****a*****", "em(strong0(strong1(|a|)))");
        is("**a*", "|*| em(|a|)");
        is("*a**", "em(|a|) |*|");
        is("***a*", "|**| em(|a|)");
        is("***a**", "|*| strong0(|a|)");
        is("*a***", "em(|a|) |**|");
        is("**a***", "strong0(|a|) |*|");
        // Together a multiple of 3, one of them opens and closes: they clash, unless both are multiples.
        text("a**b*c");
        text("a*b**c");
        is("*a**b*", "em(|a**b|)");
        is("**a*b**", "strong0(|a*b|)");
        is("a***b***c", "|a| em(strong0(|b|)) |c|");
        is("*a***b*", "em(|a|) |*| em(|b|)");
        is("a*b*c", "|a| em(|b|) |c|");
        is("a**b**c", "|a| strong0(|b|) |c|");
        text("a****b**c");
        is("a****b*****c", "|a****b*****c|");
        is("a***b******c", "|a| em(strong0(|b|)) |***c|");
        is("**a*", "|*| em(|a|)");
    }

    private static void passedOver() {
        is("*a **b*", "|*a *| em(|b|)");
        is("*a _b*_", "em(|a _b|) |_|");
        is("_a *b_ c*", "em(|a *b|) | c*|");
        is("*a _b c* d_", "em(|a _b c|) | d_|");
        is("**a *b** c*", "em(em(|a | em(|b|)) | c|)");
        is("*a *b *c*", "|*a *b | em(|c|)");
        is("*a* *b*", "em(|a|) | | em(|b|)");
        is("a* *b*", "|a* | em(|b|)");
        is("**a **b** c**", "strong0(|a | strong1(|b|) | c|)");
        is("*a *b**", "em(|a | em(|b|))");
        is("_a __b_ c__", "em(|a | em(em(|b|) | c|))");
        is("*a __b* c__ *d*", "em(|a __b|) | c__ | em(|d|)");
    }

    private static void plainLinks() {
        is("[a](b)", "link|b|(|a|)");
        is("[a](  b  )", "link|b|(|a|)");
        is("[a](\nb\n)", "link|b|(|a|)");
        is("[a](\nb\n'c'\n)", "link|b|'c'(|a|)");
        is("[a]()", "link||(|a|)");
        is("[a](  )", "link||(|a|)");
        is("[a](<>)", "link||(|a|)");
        is("[a](<>'b')", "|[a](<>'b')|");
        is("[a](<> 'b')", "link||'b'(|a|)");
        is("[a](<1>2)", "|[a](<1>2)|");
        is("[a]( 'b')", "link|'b'|(|a|)");
        is("[a]('b c')", "|[a]('b c')|");
        is("[a](b 'c' 'd')", "|[a](b 'c' 'd')|");
        is("[a](b'c')", "link|b'c'|(|a|)");
        is("[a](b \"c\\\"d\")", "link|b|'c\"d'(|a|)");
        is("[a](b(c))", "link|b(c)|(|a|)");
        is("[a](b(c)", "|[a](b(c)|");
        is("[a](b))", "link|b|(|a|) |)|");
        is("[a](b\\))", "link|b)|(|a|)");
        is("[a](b\\()", "link|b(|(|a|)");
        is("[a](<b)c>)", "link|b)c|(|a|)");
        is("[a](<b", "|[a](<b|");
        is("[a](b", "|[a](b|");
        is("[a](", "|[a](|");
        is("[a](b 'c'", "|[a](b 'c'|");
        is("[a](b\u007Fc)", "|[a](b\u007Fc)|");
        is("[a](&amp;\\*&#1;)", "link|&*\uFFFD|(|a|)");
        is("[a](b (c(d)))", "|[a](b (c(d)))|");
        is("[](b)", "link|b|");
        is("![](b)", "image|b|");
        is("![a](b 'c')", "image|b|'c'(|a|)");
        is("[a](b)(c)", "link|b|(|a|) |(c)|");
        is("[a] (b)", "|[a] (b)|");
        is("[a]\n(b)", "|[a]| soft |(b)|");
        is("[a](b  'c'  )", "link|b|'c'(|a|)");
    }

    private static void labelsOfLinks() {
        String most = "x".repeat(100);
        String more = most + "x";
        is("[a](b)[" + more + "]", "link|b|(|a|) |[" + more + "]|");
        Check.same("a label of 100", Check.treeOf("[" + most + "]: u\n\n[a][" + most + "]"), "par(link|u|(|a|))");
        Check.same("a text of 100", Check.treeOf("[" + most + "]: u\n\n[" + most + "]"), "par(link|u|(|" + most + "|))");
        Check.same("a label of 101 is none", Check.treeOf("[x]: u\n\n[x][" + more + "]"),
            "par(link|u|(|x|) |[" + more + "]|)");
        Check.same("a label of 100 that is not defined", Check.treeOf("[x]: u\n\n[x][" + most + "]"),
            "par(|[x][" + most + "]|)");
        defined("[a][x]", "link|u|'t'(|a|)");
        defined("[a][X ]", "link|u|'t'(|a|)");
        defined("[a] [x]", "|[a] | link|u|'t'(|x|)");
        defined("[x][]", "link|u|'t'(|x|)");
        defined("[x][ ]", "link|u|'t'(|x|) |[ ]|");
        defined("[a][]", "|[a][]|");
        defined("[x]()", "link||(|x|)");
        defined("[x](a b)", "link|u|'t'(|x|) |(a b)|");
        defined("[x](a b)[y z]", "link|u|'t'(|x|) |(a b)| link|v|(|y z|)");
        defined("[x][q]", "|[x][q]|");
        defined("[x][q][]", "|[x][q][]|");
        defined("[q][x][]", "link|u|'t'(|q|) |[]|");
        defined("![q][x]", "image|u|'t'(|q|)");
        defined("![x][]", "image|u|'t'(|x|)");
        defined("[\\x]", "|[\\x]|");
        defined("[*x*]", "|[| em(|x|) |]|");
        defined("[*x*][x]", "link|u|'t'(em(|x|))");
        defined("[y  z]", "link|v|(|y  z|)");
        defined("[a][y\nz]", "link|v|(|a|)");
        defined("[a][b\\]x]", "|[a][b]x]|");
        defined("[]", "|[]|");
        defined("[ ]", "|[ ]|");
        defined("[][x]", "link|u|'t'");
    }

    private static void brackets() {
        defined("[a[x]", "|[a| link|u|'t'(|x|)");
        defined("[x[a]]", "|[x[a]]|");
        defined("[x[a]](b)", "link|b|(|x[a]|)");
        defined("[x [a](b)]", "|[x | link|b|(|a|) |]|");
        defined("[x ![a](b)]", "|[x | image|b|(|a|) |]|");
        defined("[x ![a](b)][x]", "link|u|'t'(|x | image|b|(|a|))");
        defined("[x ![a](b)][]", "|[x | image|b|(|a|) |][]|");
        defined("![x [a]]", "|![x [a]]|");
        defined("![a[x]b](c)", "image|c|(|a| link|u|'t'(|x|) |b|)");
        defined("x]", "|x]|");
        defined("[x]]", "link|u|'t'(|x|) |]|");
        defined("[x", "|[x|");
        defined("![x", "|![x|");
        defined("[[x]](a)", "|[| link|u|'t'(|x|) |](a)|");
        defined("![![x]](a)", "image|a|(image|u|'t'(|x|))");
        defined("[x\\]", "|[x]|");
        defined("[`x`]", "|[| coding|x| |]|");
        defined("[a`]`x]", "|[a| coding|]| |x]|");
    }

    private static void deadBrackets() {
        is("[a [b](c)](d)", "|[a | link|c|(|b|) |](d)|");
        is("[a [b](c)](d)](e)", "|[a | link|c|(|b|) |](d)](e)|");
        is("[a [b [c](d)](e)](f)", "|[a [b | link|d|(|c|) |](e)](f)|");
        is("[a](b) [c](d)", "link|b|(|a|) | | link|d|(|c|)");
        is("[a <ab:c>](d)", "|[a | link|ab:c|(|ab:c|) |](d)|");
        is("[a <b@c>](d)", "|[a | link|mailto:b@c|(|b@c|) |](d)|");
        is("![a [b](c)](d)", "image|d|(|a | link|c|(|b|))");
        is("[x ![a [b](c)](d)](e)", "|[x | image|d|(|a | link|c|(|b|)) |](e)|");
        is("[a ![b](c)](d)", "link|d|(|a | image|c|(|b|))");
        defined("[a [x] b][x]", "|[a | link|u|'t'(|x|) | b]| link|u|'t'(|x|)");
        is("[a [b] c](d)", "link|d|(|a [b] c|)");
    }

    private static void runsAndBrackets() {
        is("*a [b*](c)", "|*a | link|c|(|b*|)");
        is("[*a](b)*", "link|b|(|*a|) |*|");
        is("*[a](b)*", "em(link|b|(|a|))");
        is("*[a*]", "em(|[a|) |]|");
        is("[*a*", "|[| em(|a|)");
        is("**[*a*](b)**", "strong0(link|b|(em(|a|)))");
        is("[**a *b** c*](d)", "link|d|(em(em(|a | em(|b|)) | c|))");
        is("*a ![*b](c) d*", "em(|a | image|c|(|*b|) | d|)");
        is("[a](b*c)*", "link|b*c|(|a|) |*|");
        is("*a](b*", "em(|a](b|)");
        is("*a*[b](c)*d*", "em(|a|) link|c|(|b|) em(|d|)");
    }
}
