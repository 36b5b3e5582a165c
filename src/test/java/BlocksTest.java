/** Promises 11 to 13 for blocks: nodes, node and letter of what lines become. */
public final class BlocksTest {
    public static void main(String[] args) {
        askingWrongly();
        lines();
        quotes();
        headings();
        fences();
        codes();
        lists();
        looseness();
        definitions();
        Check.finish();
    }

    private static void is(String chapter, String due) {
        Check.same("tree of " + chapter, Check.treeOf(chapter), due);
    }

    private static void askingWrongly() {
        BookWorks x = Check.book("# a\n\n```x y\nb\n```\n");
        Check.same("nodes(0)", x.nodes(0), 4);
        Check.same("nodes(1)", x.nodes(1), 0);
        Check.same("nodes(-1)", x.nodes(-1), 0);
        Check.same("document's holder", x.node(0, 0, 1), -1);
        Check.same("document's kind", x.node(0, 0, 0), 0);
        Check.same("node(0, 4, 0)", x.node(0, 4, 0), -1);
        Check.same("node(0, -1, 0)", x.node(0, -1, 0), -1);
        Check.same("node(1, 0, 0)", x.node(1, 0, 0), -1);
        Check.same("node(0, 0, 6)", x.node(0, 0, 6), -1);
        Check.same("node(0, 0, -1)", x.node(0, 0, -1), -1);
        Check.same("code's text", x.node(0, 3, 4), 2);
        Check.same("code's info", x.node(0, 3, 5), 3);
        Check.same("letter of code", x.letter(0, 3, false, 1), 10);
        Check.same("letter of info", x.letter(0, 3, true, 2), 'y');
        Check.same("letter behind", x.letter(0, 3, false, 2), -1);
        Check.same("letter ahead", x.letter(0, 3, true, -1), -1);
        Check.same("letter of a heading", x.letter(0, 1, false, 0), -1);
        Check.same("letter of no node", x.letter(0, 9, false, 0), -1);
        Check.same("letter of no chapter", x.letter(3, 0, false, 0), -1);
    }

    private static void lines() {
        is("", "");
        is("\n\n \n", "");
        is("a\nb\rc\r\nd", "par(|a| soft |b| soft |c| soft |d|)");
        is("a\n\rb", "par(|a|) par(|b|)");
        is("a\tb\tc", "par(|a   b   c|)");
        is("abcd\te", "par(|abcd    e|)");
        is("é\te", "par(|é   e|)");
        is("  a\n     b  ", "par(|a| soft |b|)");
        is("a\n\tb", "par(|a| soft |b|)");
        is("\ta\tb", "code|a   b\n|");
    }

    private static void quotes() {
        is("> a\nb\n> c", "quote(par(|a| soft |b| soft |c|))");
        is(">a\n\n>b", "quote(par(|a|)) quote(par(|b|))");
        is("   > a\n    > b", "quote(par(|a| soft |> b|))");
        is(">  \n> a\n>", "quote(par(|a|))");
        is(">\t\ta", "quote(code|  a\n|)");
        is("> > a\n> b", "quote(quote(par(|a| soft |b|)))");
        is("> - a\nb\n\nc", "quote(list0(item(par(|a| soft |b|)))) par(|c|)");
        is("> ```\na", "quote(code||) par(|a|)");
        is("> a\n---", "quote(par(|a|)) rule");
        is(">a\n===", "quote(par(|a| soft |===|))");
    }

    private static void headings() {
        is("# a", "head1(|a|)");
        is("####### a", "par(|####### a|)");
        is("#a", "par(|#a|)");
        is("#", "head1");
        is("## ##", "head2");
        is("### a ## b ####  ", "head3(|a ## b|)");
        is("# a#", "head1(|a#|)");
        is("# a \\#", "head1(|a #|)");
        is("    # a", "code|# a\n|");
        is("a\n# b\nc", "par(|a|) head1(|b|) par(|c|)");
        is("a\nb \n ===  ", "head1(|a| soft |b|)");
        is("a\n-", "head2(|a|)");
        is("a\n= =", "par(|a| soft |= =|)");
        is("a\n    ---", "par(|a| soft |---|)");
        is("===", "par(|===|)");
        is("---", "rule");
        is("- a\n  ---\n- b\n---", "list0(item(head2(|a|)) item(par(|b|))) rule");
        is(" * * *\t*", "rule");
        is("**", "par(|**|)");
        is("_ _ _ a", "par(|_ _ _ a|)");
        is("a\n***\nb", "par(|a|) rule par(|b|)");
        is("[a]: b\n===", "par(|===|)");
        is("[a]: b\n---", "rule");
        is("[a]: b\n-\n", "list0(item)");
        is("[a]: b\nc\n===", "head1(|c|)");
    }

    private static void fences() {
        is("```\na\n\n b\n```\nc", "code|a\n\n b\n| par(|c|)");
        is("~~~ x &amp; y \n```\n~~~~  \n", "code|```\n|'x &amp; y'");
        is("```` a\n```\n`````", "code|```\n|'a'");
        is("``` a`b\n", "par(|``` a`b|)");
        is("~~~ a`b~\n", "code||'a`b~'");
        is("  ```\n   a\n b\n    ```\n```", "code| a\nb\n  ```\n|");
        is("```\na", "code|a\n|");
        is("```\n\n\n", "code|\n\n|");
        is("a\n```\nb", "par(|a|) code|b\n|");
        is("- ```\n  a\n\n  b\nc", "list0(item(code|a\n\nb\n|)) par(|c|)");
        is("``\na", "par(|``| soft |a|)");
        is("```\na\n``` b\n```", "code|a\n``` b\n|");
    }

    private static void codes() {
        is("    a\n\n\n     b\n\n  \nc", "code|a\n\n\n b\n| par(|c|)");
        is("    a\n      \n    b", "code|a\n  \nb\n|");
        is("a\n    b", "par(|a| soft |b|)");
        is("> a\n    b", "quote(par(|a| soft |b|))");
        is("-     a\n\n      b", "list0(item(code|a\n\nb\n|))");
        is("    a\nb", "code|a\n| par(|b|)");
        is("# a\n    b", "head1(|a|) code|b\n|");
    }

    private static void lists() {
        is("- a\n- b\n* c", "list0(item(par(|a|)) item(par(|b|))) list0(item(par(|c|)))");
        is("3. a\n4. b\n5) c", "list3(item(par(|a|)) item(par(|b|))) list5(item(par(|c|)))");
        is("123456789. a", "list123456789(item(par(|a|)))");
        is("1234567890. a", "par(|1234567890. a|)");
        is("0. a", "list0(item(par(|a|)))");
        is("a\n1. b", "par(|a|) list1(item(par(|b|)))");
        is("a\n01) b", "par(|a|) list1(item(par(|b|)))");
        is("a\n2. b", "par(|a| soft |2. b|)");
        is("a\n-\nb", "head2(|a|) par(|b|)");
        is("a\n*\nb", "par(|a| soft |*| soft |b|)");
        is("-a", "par(|-a|)");
        is("-\na", "list0(item) par(|a|)");
        is("-\n  a", "list0(item(par(|a|)))");
        is("-\n\n  a", "list0(item) par(|a|)");
        is("-  a\n\n   b\n  c", "list0loose(item(par(|a|) par(|b| soft |c|)))");
        is("-  a\n\n  b", "list0(item(par(|a|))) par(|b|)");
        is("- a\n  - b\n    - c\n- d",
            "list0(item(par(|a|) list0(item(par(|b|) list0(item(par(|c|)))))) item(par(|d|)))");
        is("-      \n  a", "list0(item(par(|a|)))");
        is("1.  a\n\n    b", "list1loose(item(par(|a|) par(|b|)))");
        is("- # a\n- ***\n- b", "list0(item(head1(|a|)) item(rule) item(par(|b|)))");
        is("- a\n  > b", "list0(item(par(|a|) quote(par(|b|))))");
        is("- [a]: b\n\n  c", "list0(item(par(|c|)))");
        is("- a\n\n\tb", "list0loose(item(par(|a|) par(|b|)))");
    }

    private static void looseness() {
        is("- a\n\n- b", "list0loose(item(par(|a|)) item(par(|b|)))");
        is("- a\n\n\nb", "list0(item(par(|a|))) par(|b|)");
        is("- a\n  - b\n\n  - c\n- d",
            "list0(item(par(|a|) list0loose(item(par(|b|)) item(par(|c|)))) item(par(|d|)))");
        is("- a\n  - b\n\n- c", "list0loose(item(par(|a|) list0(item(par(|b|)))) item(par(|c|)))");
        is("- ```\n  a\n\n  ```\n- b", "list0(item(code|a\n\n|) item(par(|b|)))");
        is("- > a\n  >\n- b", "list0loose(item(quote(par(|a|))) item(par(|b|)))");
        is("- a\n  [b]: c\n- d", "list0(item(par(|a| soft |[b]: c|)) item(par(|d|)))");
        is("- [b]: c\n  [d]: e\n- f", "list0loose(item item(par(|f|)))");
        is("-\n\n- a", "list0loose(item item(par(|a|)))");
        is("-     a\n\n\n- b", "list0loose(item(code|a\n|) item(par(|b|)))");
        is("- # a\n\n  b", "list0loose(item(head1(|a|) par(|b|)))");
    }

    private static void definitions() {
        is("[a]: b\n\n[a]", "par(link|b|(|a|))");
        is("[a]: b 'c'\n[a]", "par(link|b|'c'(|a|))");
        is("[a]:\nb\n'c\nd'\n\n[a]", "par(link|b|'c\nd'(|a|))");
        is("[a]: b 'c' d\n\n[a]", "par(|[a]: b 'c' d|) par(|[a]|)");
        is("[a]: b\n'c' d\n\n[a]", "par(|'c' d|) par(link|b|(|a|))");
        is("[a]: <b c> (d\\)e)\n\n[a]", "par(link|b c|'d)e'(|a|))");
        is("[a]: <>\n\n[a]", "par(link||(|a|))");
        is("[a]: b(c)d\n\n[a]", "par(link|b(c)d|(|a|))");
        is("[a]: b(c\n\n[a]", "par(|[a]: b(c|) par(|[a]|)");
        is("[a]: b)c\n\n[a]", "par(|[a]: b)c|) par(|[a]|)");
        is("[a]: b\\(&amp;\\c\n\n[a]", "par(link|b(&\\c|(|a|))");
        is("[a]: &#1;&#0;\n\n[a]", "par(link|\uFFFD\uFFFD|(|a|))");
        is("[a]: b\n[A]: c\n\n[ a ]", "par(link|b|(| a |))");
        is("[a\n b]: c\n\n[A   b]", "par(link|c|(|A   b|))");
        is("[a]\n\n[a]: b", "par(link|b|(|a|))");
        is("> [a]: b\n\n[a]", "quote par(link|b|(|a|))");
        is("a\n[b]: c\n\n[b]", "par(|a| soft |[b]: c|) par(|[b]|)");
        is("[]: b\n\n[ ]: c", "par(|[]: b|) par(|[ ]: c|)");
        is("[a[]: b", "par(|[a[]: b|)");
        is("[a\\]]: b\n\n[a\\]]", "par(link|b|(|a]|))");
        is("[a] : b", "par(|[a] : b|)");
        is("[a]:", "par(|[a]:|)");
        String longest = "x".repeat(100);
        is("[" + longest + "]: b\n\n[" + longest + "]", "par(link|b|(|" + longest + "|))");
        is("[" + longest + "y]: b", "par(|[" + longest + "y]: b|)");
        Check.same("of its own chapter", Check.tree(Check.book("[a]: b", "[a]"), 1), "par(|[a]|)");
    }
}
