/** DEFINITIONS at their boundaries: labels, gaps, targets, titles, and which one counts. */
public final class DefinitionsEdgesTest {
    public static void main(String[] args) {
        lengthsOfLabels();
        signsInLabels();
        gaps();
        pointedTargets();
        rowsAsTargets();
        titles();
        titleOrNot();
        unescaped();
        normalLabels();
        whereTheyStand();
        manyOfThem();
        Check.finish();
    }

    private static void is(String chapter, String due) {
        Check.same("tree of " + chapter, Check.treeOf(chapter), due);
    }

    /** A definition of a is told by these words: its target and title. */
    private static void defines(String words, String due) {
        is(words + "\n\n[a]", "par(link" + due + "(|a|))");
    }

    /** These words, plain ones and on one line, are no definition. */
    private static void definesNot(String words) {
        is(words + "\n\n[a]", "par(|" + words + "|) par(|[a]|)");
    }

    private static void label(String label, boolean fine) {
        String chapter = "[" + label + "]: b";
        is(chapter, fine ? "" : "par(|" + chapter + "|)");
    }

    private static void lengthsOfLabels() {
        label("", false);
        label("x", true);
        label("x".repeat(99), true);
        label("x".repeat(100), true);
        label("x".repeat(101), false);
        label("é".repeat(100), true);
        label("é".repeat(101), false);
        is("[" + "x".repeat(98) + "\\]]: b", "");
        is("[" + "x".repeat(99) + "\\]]: b", "par(|[" + "x".repeat(99) + "]]: b|)");
        is("[" + "x".repeat(50) + "\n" + "x".repeat(49) + "]: b", "");
        is("[" + "x".repeat(50) + "\n" + "x".repeat(50) + "]: b",
            "par(|[" + "x".repeat(50) + "| soft |" + "x".repeat(50) + "]: b|)");
        label(" ".repeat(99) + "x", true);
        label(" ".repeat(100) + "x", false);
    }

    private static void signsInLabels() {
        label(" ", false);
        label("   ", false);
        is("[\n]: b", "par(|[| soft |]: b|)");
        label(" x ", true);
        label("x[y", false);
        is("[x\\[y]: b\n\n[x\\[y]", "par(link|b|(|x[y|))");
        is("[x\\]y]: b\n\n[x\\]y]", "par(link|b|(|x]y|))");
        is("[x\\\\]: b\n\n[x\\\\]", "par(link|b|(|x\\|))");
        is("[x\\\\\\]]: b\n\n[x\\\\\\]]", "par(link|b|(|x\\]|))");
        is("[x\\\\]]: b", "par(|[x\\]]: b|)");
        is("[x\\]: b", "par(|[x]: b|)");
        is("[\\ ]: b\n\n[\\ ]", "par(link|b|(|\\ |))");
        is("[\u00A0]: b\n\n[\u00A0]", "par(link|b|(|\u00A0|))");
        label("x", true);
        is("[x] : b", "par(|[x] : b|)");
        is("[x]\n: b", "par(|[x]| soft |: b|)");
        is("x]: b", "par(|x]: b|)");
        is("\\[x]: b", "par(|[x]: b|)");
    }

    private static void gaps() {
        defines("[a]:b", "|b|");
        defines("[a]:    b", "|b|");
        defines("[a]:\nb", "|b|");
        defines("[a]:  \n   b", "|b|");
        is("[a]:\n\nb", "par(|[a]:|) par(|b|)");
        defines("[a]: b\n'c'", "|b|'c'");
        defines("[a]: b   \n   'c'", "|b|'c'");
        definesNot("[a]: <1>'c'");
        defines("[a]: <b> 'c'", "|b|'c'");
        defines("[a]: b'c'", "|b'c'|");
        defines("[a]: b    ", "|b|");
        defines("[a]: b 'c'    ", "|b|'c'");
        definesNot("[a]: b c");
        definesNot("[a]: b 'c' d");
        definesNot("[a]: <1>c");
        definesNot("[a]:");
    }

    private static void pointedTargets() {
        defines("[a]: <>", "||");
        defines("[a]: <b>", "|b|");
        defines("[a]: < b  c >", "| b  c |");
        defines("[a]: <b\\>c>", "|b>c|");
        defines("[a]: <b\\<c>", "|b<c|");
        is("[a]: <b\\\\>", "");
        definesNot("[a]: <1>2>");
        is("[a]: <b\n\n[a]", "par(|[a]: <b|) par(|[a]|)");
        Check.same("a line's end within", Check.error("[a]: <b\nc>"), "3 0 0");
        defines("[a]: <(>", "|(|");
        defines("[a]: <)>", "|)|");
        defines("[a]: <b)c> (d)", "|b)c|'d'");
        is("[a]: <1<2>", "par(|[a]: <1<2>|)");
        is("[a]: <1\n2>", "par(|[a]: <1| soft |2>|)");
        is("[a]: <1", "par(|[a]: <1|)");
    }

    private static void rowsAsTargets() {
        defines("[a]: !", "|!|");
        defines("[a]: b<c>", "|b<c>|");
        defines("[a]: (b)", "|(b)|");
        defines("[a]: b((c)(d))", "|b((c)(d))|");
        definesNot("[a]: b(");
        definesNot("[a]: b((c)");
        definesNot("[a]: b)");
        definesNot("[a]: )");
        definesNot("[a]: b(c))");
        definesNot("[a]: b(c 'd')");
        defines("[a]: b\\(", "|b(|");
        defines("[a]: b\\)", "|b)|");
        defines("[a]: b\\)c\\(", "|b)c(|");
        is("[a]: b\\\\)\n\n[a]", "par(|[a]: b\\)|) par(|[a]|)");
        is("[a]: b\\\\(\n\n[a]", "par(|[a]: b\\(|) par(|[a]|)");
        defines("[a]: b\\c\\", "|b\\c\\|");
        definesNot("[a]: b\u007Fc");
        defines("[a]: b~c", "|b~c|");
        defines("[a]: b\u0080c\u00A0d", "|b\u0080c\u00A0d|");
    }

    private static void titles() {
        defines("[a]: b \"c\"", "|b|'c'");
        defines("[a]: b 'c'", "|b|'c'");
        defines("[a]: b (c)", "|b|'c'");
        defines("[a]: b \"\"", "|b|");
        defines("[a]: b ''", "|b|");
        defines("[a]: b ()", "|b|");
        defines("[a]: b \"c\\\"d\"", "|b|'c\"d'");
        defines("[a]: b 'c\\'d'", "|b|'c'd'");
        defines("[a]: b (c\\)d)", "|b|'c)d'");
        defines("[a]: b (c\\(d)", "|b|'c(d'");
        definesNot("[a]: b (c(d)");
        definesNot("[a]: b (c(d))");
        definesNot("[a]: b (c)d)");
        definesNot("[a]: b \"c\"d\"");
        definesNot("[a]: b 'c'd'");
        defines("[a]: b \"c'(d)\"", "|b|'c'(d)'");
        defines("[a]: b 'c\"(d'", "|b|'c\"(d'");
        defines("[a]: b (c\"'d)", "|b|'c\"'d'");
        is("[a]: b \"c\\\\\" \n\n[a]", "par(link|b|'c\\'(|a|))");
        is("[a]: b \"c\\\\\\\"\n\n[a]", "par(|[a]: b \"c\\\"|) par(|[a]|)");
        defines("[a]: b 'c\nd'", "|b|'c\nd'");
        definesNot("[a]: b \"c");
        definesNot("[a]: b 'c");
        definesNot("[a]: b (c");
        definesNot("[a]: b +c+");
    }

    private static void titleOrNot() {
        is("[a]: b\n'c' d\n\n[a]", "par(|'c' d|) par(link|b|(|a|))");
        is("[a]: b\n'c\n\n[a]", "par(|'c|) par(link|b|(|a|))");
        is("[a]: b\n'c'\nd\n\n[a]", "par(|d|) par(link|b|'c'(|a|))");
        is("[a]: b 'c\nd' e\n\n[a]", "par(|[a]: b 'c| soft |d' e|) par(|[a]|)");
        is("[a]: b\n[c]: d\n\n[a][c]", "par(link|d|(|a|))");
        is("[a]: b\nc\n\n[a]", "par(|c|) par(link|b|(|a|))");
        is("[a]: b\n[c]: \n\n[a]", "par(|[c]:|) par(link|b|(|a|))");
    }

    private static void unescaped() {
        for (int c = 33; c < 127; c++) {
            boolean point = c <= 47 || c >= 58 && c <= 64 || c >= 91 && c <= 96 || c >= 123;
            String told = (point ? "" : "\\") + (char) c;
            BookWorks x = Check.book("[a]: x\\" + (char) c + "y 'z\\" + (char) c + "'\n\n[a]");
            Check.same("target with \\" + (char) c, Check.text(x, 0, 2, false), "x" + told + "y");
            if (c != '\'') {
                Check.same("title with \\" + (char) c, Check.text(x, 0, 2, true), "z" + told);
            }
        }
        defines("[a]: &amp;&#65;&#x42;&copy;&", "|&AB\u00A9&|");
        defines("[a]: b '&amp;&#65;&#x42;&copy;&'", "|b|'&AB\u00A9&'");
        defines("[a]: &#0;&#1;&#31;&#32;&#65534;&#65535;&#65536;", "|\uFFFD\uFFFD\uFFFD \uFFFD\uFFFD\uD800\uDC00|");
        defines("[a]: &#9;&#10;&#13;&#8;&#11;", "|\t\n\r\uFFFD\uFFFD|");
        defines("[a]: \\&amp;&amp\\;", "|&amp;&amp;|");
        defines("[a]: &#xD7FF;&#xD800;&#xDFFF;&#xE000;", "|\uD7FF\uFFFD\uFFFD\uE000|");
        defines("[a]: &#1114111;&#1114112;", "|\uDBFF\uDFFF\uFFFD|");
    }

    private static void normalLabels() {
        is("[A b]: c\n\n[a B]", "par(link|c|(|a B|))");
        is("[AZ]: c\n\n[az]", "par(link|c|(|az|))");
        is("[@`\\[\\{]: c\n\n[@`\\[\\{]", "par(link|c|(|@`[{|))");
        is("[@]: c\n\n[`]", "par(|[`]|)");
        is("[\\{]: c\n\n[\\[]", "par(|[[]|)");
        is("[É]: c\n\n[é]", "par(|[é]|)");
        is("[É]: c\n\n[É]", "par(link|c|(|É|))");
        is("[  a   b  ]: c\n\n[a b]", "par(link|c|(|a b|))");
        is("[a\nb]: c\n\n[a b]", "par(link|c|(|a b|))");
        is("[a b]: c\n\n[a  \n  b ]", "par(link|c|(|a| hard |b |))");
        is("[a b]: c\n\n[ab]", "par(|[ab]|)");
        is("[a bc]: d\n\n[a b c]", "par(|[a b c]|)");
        is("[a bc]: d\n\n[a  bc]", "par(link|d|(|a  bc|))");
        is("[ab]: c\n\n[a]", "par(|[a]|)");
        is("[a]: c\n\n[ab]", "par(|[ab]|)");
        is("[a\u00A0b]: c\n\n[a b]", "par(|[a b]|)");
        is("[&amp;]: c\n\n[&]", "par(|[&]|)");
        is("[\\!]: c\n\n[!]", "par(|[!]|)");
    }

    private static void whereTheyStand() {
        is("[a]: b\n[a]: c\n\n[a]", "par(link|b|(|a|))");
        is("[a]: b\n\n> [A]: c\n\n[a]", "quote par(link|b|(|a|))");
        is("> [A]: c\n\n[a]: b\n\n[a]", "quote par(link|c|(|a|))");
        is("[a]\n\n- [a]: b", "par(link|b|(|a|)) list0(item)");
        is("b\n[a]: c\n\n[a]", "par(|b| soft |[a]: c|) par(|[a]|)");
        is("# [a]: b\n\n[a]", "head1(|[a]: b|) par(|[a]|)");
        is("    [a]: b\n\n[a]", "code|[a]: b\n| par(|[a]|)");
        is("   [a]: b\n\n[a]", "par(link|b|(|a|))");
        is("[a]: b\n# c [a]", "head1(|c | link|b|(|a|))");
        is("[a]: b\n***\n[a]", "rule par(link|b|(|a|))");
        is("[a]: b\n> c\n\n[a]", "quote(par(|c|)) par(link|b|(|a|))");
        is("> [a]: b\nc [a]", "quote(par(|c | link|b|(|a|)))");
        is("[a]: b\n===\n[a]", "par(|===| soft link|b|(|a|))");
        is("[a]: b\n[a]\n===", "head1(link|b|(|a|))");
        is("[a]: b", "");
        Check.same("each chapter has its own", Check.tree(Check.book("[a]: b\n\n[a]", "[a]: c\n\n[a]"), 1),
            "par(link|c|(|a|))");
        Check.same("not those of the chapter ahead", Check.tree(Check.book("[a]: b\n\n[c]: d", "[a] [c]"), 1),
            "par(|[a] [c]|)");
    }

    private static void manyOfThem() {
        StringBuilder b = new StringBuilder();
        StringBuilder due = new StringBuilder();
        for (int k = 0; k < 420; k++) {
            b.append("[").appendCodePoint(0x100 + k).append("]:b\n");
        }
        b.append("\n[\u0100] [").appendCodePoint(0x100 + 419).append("]");
        due.append("par(link|b|(|\u0100|) | | link|b|(|").appendCodePoint(0x100 + 419).append("|))");
        is(b.toString(), due.toString());
        b.setLength(0);
        for (int k = 0; k < 498; k++) {
            b.append("[").append((char) ('0' + k % 10)).append("]:").append((char) ('a' + k % 7)).append("\n");
        }
        b.append("\n[0]");
        is(b.toString(), "par(link|a|(|0|))");
    }
}
