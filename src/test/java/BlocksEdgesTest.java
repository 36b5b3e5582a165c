/** BLOCKS at their boundaries: three spaces and four, one sign fewer or more, lines just near or far enough. */
public final class BlocksEdgesTest {
    public static void main(String[] args) {
        quotes();
        headings();
        fences();
        closingFences();
        underlines();
        rules();
        marksOfItems();
        itemsInParagraphs();
        widthsOfItems();
        emptyItems();
        codes();
        restsOfLines();
        kindsOfLists();
        loosenessOfItems();
        loosenessInItems();
        lastLines();
        depth();
        Check.finish();
    }

    private static void is(String chapter, String due) {
        Check.same("tree of " + chapter, Check.treeOf(chapter), due);
    }

    private static void quotes() {
        is("> a", "quote(par(|a|))");
        is("   > a", "quote(par(|a|))");
        is("    > a", "code|> a\n|");
        is(">", "quote");
        is("> a\n   > b", "quote(par(|a| soft |b|))");
        is("> a\n    > b", "quote(par(|a| soft |> b|))");
        is("> # a\n   > b", "quote(head1(|a|) par(|b|))");
        is("> # a\n    > b", "quote(head1(|a|)) code|> b\n|");
        is(">    a", "quote(par(|a|))");
        is(">     a", "quote(code|a\n|)");
        is(">\ta", "quote(par(|a|))");
        is("> # a\n>     b", "quote(head1(|a|) code|b\n|)");
        is("> # a\n>    b", "quote(head1(|a|) par(|b|))");
        is("> # a\n\n> b", "quote(head1(|a|)) quote(par(|b|))");
        is("> # a\n>\n> b", "quote(head1(|a|) par(|b|))");
        is("> a\n>\nb", "quote(par(|a|)) par(|b|)");
        is("> > a\n>\n> b", "quote(quote(par(|a|)) par(|b|))");
        is("> a\n- b", "quote(par(|a|)) list0(item(par(|b|)))");
    }

    private static void headings() {
        for (int n = 1; n <= 6; n++) {
            is("#".repeat(n) + " a", "head" + n + "(|a|)");
            is("#".repeat(n), "head" + n);
            is("#".repeat(n) + "a", "par(|" + "#".repeat(n) + "a|)");
        }
        is("#######", "par(|#######|)");
        is("####### a", "par(|####### a|)");
        is("   # a", "head1(|a|)");
        is("    # a", "code|# a\n|");
        is("a\n    # b", "par(|a| soft |# b|)");
        is("a\n   # b", "par(|a|) head1(|b|)");
        is("#\ta", "head1(|a|)");
        is("#     a     ", "head1(|a|)");
        is("# ", "head1");
        is("# #", "head1");
        is("# ##  ", "head1");
        is("# a #", "head1(|a|)");
        is("# a   ####   ", "head1(|a|)");
        is("# a#", "head1(|a#|)");
        is("# a #b", "head1(|a #b|)");
        is("# # #", "head1(|#|)");
        is("# #a", "head1(|#a|)");
        is("## # a", "head2(|# a|)");
        is("# a \\##", "head1(|a ##|)");
        is("#\u00A0a", "par(|#\u00A0a|)");
        is("# a\n# b", "head1(|a|) head1(|b|)");
    }

    private static void fences() {
        is("``\na\n``", "par(coding|a|)");
        is("```\na\n```", "code|a\n|");
        is("~~\na\n~~", "par(|~~| soft |a| soft |~~|)");
        is("~~~\na\n~~~", "code|a\n|");
        is("   ```\na\n```", "code|a\n|");
        is("    ```\na", "code|```\n| par(|a|)");
        is("``` a b ", "code||'a b'");
        is("```a", "code||'a'");
        is("``` a` b", "par(|``` a` b|)");
        is("```` ```", "par(|```` ```|)");
        is("~~~ ` ~~~", "code||'` ~~~'");
        is("~~~~", "code||");
        is("   ```\n   a\n    b\n  c\nd", "code|a\n b\nc\nd\n|");
        is("  ```\n   a\n  b\n c", "code| a\nb\nc\n|");
        is(" ```\n  a\n b\nc", "code| a\nb\nc\n|");
        is("```\n a\nb", "code| a\nb\n|");
        is("a\n   ~~~\nb", "par(|a|) code|b\n|");
        is("a\n    ~~~\nb", "par(|a| soft |~~~| soft |b|)");
        is("```\n> a\n# b\n- c", "code|> a\n# b\n- c\n|");
        is(" ``\na\n``", "par(coding|a|)");
        is("   ~~\na", "par(|~~| soft |a|)");
        is("> ```\n>   a", "quote(code|  a\n|)");
        is("> >  ```\n> >   a\n> > b", "quote(quote(code| a\nb\n|))");
        is("- ```\n    a", "list0(item(code|  a\n|))");
        is("-  ```\n    a\n   b", "list0(item(code| a\nb\n|))");
    }

    private static void closingFences() {
        is("```\n``\na", "code|``\na\n|");
        is("```\n```\na", "code|| par(|a|)");
        is("```\n````\na", "code|| par(|a|)");
        is("````\n```\na", "code|```\na\n|");
        is("````\n````\na", "code|| par(|a|)");
        is("```\n~~~\na", "code|~~~\na\n|");
        is("```\n ``\na", "code| ``\na\n|");
        is("````\n   ```\na", "code|   ```\na\n|");
        is("> ````\n> ```\n> a", "quote(code|```\na\n|)");
        is("~~~\n```\na", "code|```\na\n|");
        is("```\n   ```\na", "code|| par(|a|)");
        is("```\n    ```\na", "code|    ```\na\n|");
        is("```\n``` x\na", "code|``` x\na\n|");
        is("```\n```   \na", "code|| par(|a|)");
        is("> ```\n> ```\n> a", "quote(code|| par(|a|))");
        is("> ```\n```\na", "quote(code||) code|a\n|");
        is("- ```\n  ```\n  a", "list0(item(code|| par(|a|)))");
    }

    private static void underlines() {
        is("a\n=", "head1(|a|)");
        is("a\n-", "head2(|a|)");
        is("a\n   =", "head1(|a|)");
        is("a\n    =", "par(|a| soft |=|)");
        is("a\n   -", "head2(|a|)");
        is("a\n    -", "par(|a| soft |-|)");
        is("a\n===  ", "head1(|a|)");
        is("a\n=== b", "par(|a| soft |=== b|)");
        is("a\n=-", "par(|a| soft |=-|)");
        is("a\n-=", "par(|a| soft |-=|)");
        is("a\n--- -", "par(|a|) rule");
        is("a\n- -", "par(|a|) list0(item(list0(item)))");
        is("a  \n===", "head1(|a|)");
        is("a\n\n===", "par(|a|) par(|===|)");
        is("# a\n===", "head1(|a|) par(|===|)");
        is("> a\n===", "quote(par(|a| soft |===|))");
        is("> a\n> ===", "quote(head1(|a|))");
        is("- a\n===", "list0(item(par(|a| soft |===|)))");
        is("- a\n  ===", "list0(item(head1(|a|)))");
        is("[a]: b\n=", "par(|=|)");
        is("[a]: b\n- c", "list0(item(par(|c|)))");
        is("[a]: b\n-", "list0(item)");
        is("[a]: b\n--", "par(|--|)");
        is("[a]: b\nc\n--", "head2(|c|)");
    }

    private static void rules() {
        for (String sign : new String[] {"*", "-", "_"}) {
            is(sign.repeat(3), "rule");
            is("   " + sign.repeat(3), "rule");
            is("    " + sign.repeat(3), "code|" + sign.repeat(3) + "\n|");
            is(sign + " " + sign + "  " + sign + "   ", "rule");
            is(sign.repeat(3) + "a", "par(|" + sign.repeat(3) + "a|)");
            is(sign.repeat(40), "rule");
        }
        is("**", "par(|**|)");
        is("__", "par(|__|)");
        is("--", "par(|--|)");
        is("*-*", "par(em(|-|))");
        is("-*-", "par(|-*-|)");
        is("--_", "par(|--_|)");
        is("+++", "par(|+++|)");
        is("a\n***", "par(|a|) rule");
        is("a\n    ***", "par(|a| soft |***|)");
        is("* * *", "rule");
        is("* *", "list0(item(list0(item)))");
        is("- a\n***", "list0(item(par(|a|))) rule");
        is("- a\n  ***", "list0(item(par(|a|) rule))");
    }

    private static void marksOfItems() {
        for (String sign : new String[] {"*", "+", "-"}) {
            is(sign + " a", "list0(item(par(|a|)))");
            is(sign + "a", "par(|" + sign + "a|)");
            is("   " + sign + " a", "list0(item(par(|a|)))");
            is("    " + sign + " a", "code|" + sign + " a\n|");
            is(sign, "list0(item)");
        }
        for (String sign : new String[] {".", ")"}) {
            is("1" + sign + " a", "list1(item(par(|a|)))");
            is("1" + sign, "list1(item)");
            is("1" + sign + "a", "par(|1" + sign + "a|)");
            is("0" + sign + " a", "list0(item(par(|a|)))");
            is("999999999" + sign + " a", "list999999999(item(par(|a|)))");
            is("9999999999" + sign + " a", "par(|9999999999" + sign + " a|)");
            is("000000009" + sign + " a", "list9(item(par(|a|)))");
            is("0000000009" + sign + " a", "par(|0000000009" + sign + " a|)");
            is("   1" + sign + " a", "list1(item(par(|a|)))");
            is("    1" + sign + " a", "code|1" + sign + " a\n|");
        }
        is("   123456789. a", "list123456789(item(par(|a|)))");
        is("   1234567890. a", "par(|1234567890. a|)");
        is("> > > 123456789) a", "quote(quote(quote(list123456789(item(par(|a|))))))");
        is("> > > 1234567890) a", "quote(quote(quote(par(|1234567890) a|))))");
        is("1: a", "par(|1: a|)");
        is(". a", "par(|. a|)");
        is("1 . a", "par(|1 . a|)");
        is("-\u00A0a", "par(|-\u00A0a|)");
    }

    private static void itemsInParagraphs() {
        is("a\n- b", "par(|a|) list0(item(par(|b|)))");
        is("a\n* ", "par(|a| soft |*|)");
        is("a\n+", "par(|a| soft |+|)");
        is("a\n1. b", "par(|a|) list1(item(par(|b|)))");
        is("a\n1.", "par(|a| soft |1.|)");
        is("a\n1) ", "par(|a| soft |1)|)");
        is("a\n0. b", "par(|a| soft |0. b|)");
        is("a\n2. b", "par(|a| soft |2. b|)");
        is("a\n10. b", "par(|a| soft |10. b|)");
        is("a\n0) b", "par(|a| soft |0) b|)");
        is("a\n2) b", "par(|a| soft |2) b|)");
        is("a\n1) b", "par(|a|) list1(item(par(|b|)))");
        is("a\n000000001) b", "par(|a|) list1(item(par(|b|)))");
        is("> a\n2. b", "quote(par(|a|)) list2(item(par(|b|)))");
        is("- a\n2. b", "list0(item(par(|a|))) list2(item(par(|b|)))");
        is("- a\n  2. b", "list0(item(par(|a| soft |2. b|)))");
        is("1. a\n2.", "list1(item(par(|a|)) item)");
    }

    private static void widthsOfItems() {
        for (int n = 1; n <= 4; n++) {
            String mark = "-" + " ".repeat(n);
            String in = " ".repeat(n + 1);
            is(mark + "a\n\n" + in + "b", "list0loose(item(par(|a|) par(|b|)))");
            if (n < 4) {
                is(mark + "a\n\n" + in.substring(1) + "b", "list0(item(par(|a|))) par(|b|)");
            }
        }
        is("-    a\n\n    b", "list0(item(par(|a|))) code|b\n|");
        is("-     a\n\n  b", "list0loose(item(code|a\n| par(|b|)))");
        is("-     a\n\n b", "list0(item(code|a\n|)) par(|b|)");
        is("-\n  a", "list0(item(par(|a|)))");
        is("-\n a", "list0(item) par(|a|)");
        is("-    \n  a", "list0(item(par(|a|)))");
        is("-    \n     a", "list0(item(par(|a|)))");
        is("-\n      a", "list0(item(code|a\n|))");
        is("   -  a\n\n      b", "list0loose(item(par(|a|) par(|b|)))");
        is("   -  a\n\n     b", "list0(item(par(|a|))) code| b\n|");
        is("10) a\n\n    b", "list10loose(item(par(|a|) par(|b|)))");
        is("10) a\n\n   b", "list10(item(par(|a|))) par(|b|)");
        is("123456789. a\n\n           b", "list123456789loose(item(par(|a|) par(|b|)))");
        is("123456789. # a\n          b", "list123456789(item(head1(|a|))) code|      b\n|");
        is("- a\n b", "list0(item(par(|a| soft |b|)))");
        is("- # a\n b", "list0(item(head1(|a|))) par(|b|)");
        is("- # a\n  b", "list0(item(head1(|a|) par(|b|)))");
    }

    private static void emptyItems() {
        is("-\n\n  a", "list0(item) par(|a|)");
        is("-\n- a", "list0(item item(par(|a|)))");
        is("-\n\n-", "list0loose(item item)");
        is("- \n  \n  a", "list0(item) par(|a|)");
        is("- a\n\n\n\n  b", "list0loose(item(par(|a|) par(|b|)))");
        is("- [a]: b\n\n  c", "list0(item(par(|c|)))");
        is("- [a]: b\n\n\n  c", "list0(item) par(|c|)");
        is("- [a]: b\n\n  c\n\n  d", "list0loose(item(par(|c|) par(|d|)))");
        is("- ```\n       \n  a", "list0(item(code|\na\n|))");
        is("-     a\n          \n      b", "list0(item(code|a\n\nb\n|))");
        is("> ```\n>    \n> a", "quote(code|   \na\n|)");
        is("- >\n\n  a", "list0loose(item(quote par(|a|)))");
    }

    private static void codes() {
        is("    a", "code|a\n|");
        is("   a", "par(|a|)");
        is("\ta", "code|a\n|");
        is("     a", "code| a\n|");
        is("    a\n   b", "code|a\n| par(|b|)");
        is("    a\n    b", "code|a\nb\n|");
        is("    a\n\n    b", "code|a\n\nb\n|");
        is("    a\n   \n    b", "code|a\n\nb\n|");
        is("    a\n    \n    b", "code|a\n\nb\n|");
        is("    a\n     \n    b", "code|a\n \nb\n|");
        is("    a\n      \n", "code|a\n|");
        is("    a\n\n\n", "code|a\n|");
        is("\n    \n    a", "code|a\n|");
        is("a\n    b", "par(|a| soft |b|)");
        is("a\n\n    b", "par(|a|) code|b\n|");
        is("- a\n      b", "list0(item(par(|a| soft |b|)))");
        is("- a\n\n      b", "list0loose(item(par(|a|) code|b\n|))");
        is("- a\n\n     b", "list0loose(item(par(|a|) par(|b|)))");
        is("> a\n>     b", "quote(par(|a| soft |b|))");
        is("> a\n> >     b", "quote(par(|a|) quote(code|b\n|))");
        is("***\n    a", "rule code|a\n|");
        is("    a\n# b\n    c", "code|a\n| head1(|b|) code|c\n|");
        is("    # a\n    > b", "code|# a\n> b\n|");
    }

    private static void restsOfLines() {
        is("> a\nb\n\nc", "quote(par(|a| soft |b|)) par(|c|)");
        is("> > a\nb", "quote(quote(par(|a| soft |b|)))");
        is("> - a\n> b\nc", "quote(list0(item(par(|a| soft |b| soft |c|))))");
        is("> # a\nb", "quote(head1(|a|)) par(|b|)");
        is(">     a\n    b", "quote(code|a\n|) code|b\n|");
        is("> ```\n> a\nb", "quote(code|a\n|) par(|b|)");
        is("- a\nb\n- c", "list0(item(par(|a| soft |b|)) item(par(|c|)))");
        is("a\n   b  \n c", "par(|a| soft |b| hard |c|)");
        is("   a   ", "par(|a|)");
        is("a\n  \nb", "par(|a|) par(|b|)");
        is("- a\n\nb\n- c", "list0(item(par(|a|))) par(|b|) list0(item(par(|c|)))");
    }

    private static void kindsOfLists() {
        is("- a\n- b\n\n\n- c", "list0loose(item(par(|a|)) item(par(|b|)) item(par(|c|)))");
        is("- a\n+ b\n* c", "list0(item(par(|a|))) list0(item(par(|b|))) list0(item(par(|c|)))");
        is("1. a\n1) b", "list1(item(par(|a|))) list1(item(par(|b|)))");
        is("1. a\n7. b", "list1(item(par(|a|)) item(par(|b|)))");
        is("- a\n1. b", "list0(item(par(|a|))) list1(item(par(|b|)))");
        is("- a\n   - b\n- c", "list0(item(par(|a|) list0(item(par(|b|)))) item(par(|c|)))");
        is("- a\n - b\n  - c\n   - d", "list0(item(par(|a|)) item(par(|b|)) item(par(|c|)) item(par(|d|)))");
        is("- a\n# b\n- c", "list0(item(par(|a|))) head1(|b|) list0(item(par(|c|)))");
        is("- - a\n- b", "list0(item(list0(item(par(|a|)))) item(par(|b|)))");
        is("- 2. a", "list0(item(list2(item(par(|a|)))))");
        is("> - a\n\n> - b", "quote(list0(item(par(|a|)))) quote(list0(item(par(|b|))))");
    }

    private static void loosenessOfItems() {
        is("- a\n- b", "list0(item(par(|a|)) item(par(|b|)))");
        is("- a\n\n- b", "list0loose(item(par(|a|)) item(par(|b|)))");
        is("- a\n- b\n\n- c", "list0loose(item(par(|a|)) item(par(|b|)) item(par(|c|)))");
        is("- a\nb\n- c", "list0(item(par(|a| soft |b|)) item(par(|c|)))");
        is("- # a\n- b", "list0(item(head1(|a|)) item(par(|b|)))");
        is("- a\n  ===\n- b", "list0(item(head1(|a|)) item(par(|b|)))");
        is("- ***\n- b", "list0(item(rule) item(par(|b|)))");
        is("-\n- b", "list0(item item(par(|b|)))");
        is("- ```\n  a\n  ```\n- b", "list0(item(code|a\n|) item(par(|b|)))");
        is("- ```\n  a\n  ```\n\n- b", "list0loose(item(code|a\n|) item(par(|b|)))");
        is("- ```\n\n  ```\n- b", "list0(item(code|\n|) item(par(|b|)))");
        is("- ```\n- b", "list0(item(code||) item(par(|b|)))");
        is("- ```\n  a\n  b\n- c", "list0(item(code|a\nb\n|) item(par(|c|)))");
        is("- ```\n  a\n  b\n\n- c", "list0(item(code|a\nb\n\n|) item(par(|c|)))");
        is("-     a\n      b\n      c\n- d", "list0(item(code|a\nb\nc\n|) item(par(|d|)))");
        is("-     a\n- b", "list0(item(code|a\n|) item(par(|b|)))");
        is("-     a\n\n- b", "list0loose(item(code|a\n|) item(par(|b|)))");
        is("- > a\n- b", "list0(item(quote(par(|a|))) item(par(|b|)))");
        is("- > a\n\n- b", "list0loose(item(quote(par(|a|))) item(par(|b|)))");
        is("- a\n  - b\n- c", "list0(item(par(|a|) list0(item(par(|b|)))) item(par(|c|)))");
        is("- a\n  - b\n\n- c", "list0loose(item(par(|a|) list0(item(par(|b|)))) item(par(|c|)))");
        is("- a\n\nb", "list0(item(par(|a|))) par(|b|)");
        is("- a\n- [b]: c\n- d", "list0(item(par(|a|)) item item(par(|d|)))");
        is("- a\n\n  [b]: c\n- d", "list0loose(item(par(|a|)) item(par(|d|)))");
        is("- [b]:\n  c\n- d", "list0loose(item item(par(|d|)))");
        is("- [b]:\n  c\n  e\n- d", "list0(item(par(|e|)) item(par(|d|)))");
    }

    private static void loosenessInItems() {
        is("- a\n  # b", "list0(item(par(|a|) head1(|b|)))");
        is("- a\n\n  # b", "list0loose(item(par(|a|) head1(|b|)))");
        is("- # a\n\n  # b", "list0loose(item(head1(|a|) head1(|b|)))");
        is("- # a\n  # b", "list0(item(head1(|a|) head1(|b|)))");
        is("- a\n  > b\n\n  c", "list0loose(item(par(|a|) quote(par(|b|)) par(|c|)))");
        is("- > a\n  >\n  > b", "list0(item(quote(par(|a|) par(|b|))))");
        is("- - a\n\n    b", "list0(item(list0loose(item(par(|a|) par(|b|)))))");
        is("- - a\n\n  b", "list0loose(item(list0(item(par(|a|))) par(|b|)))");
        is("- [b]: c\n  a", "list0(item(par(|a|)))");
        is("- a\n\n  [b]: c", "list0(item(par(|a|)))");
        is("- a\n  # b\n\n  [c]: d", "list0(item(par(|a|) head1(|b|)))");
        is("- [b]: c\n\n  a", "list0(item(par(|a|)))");
        is("> a\n>\n> b", "quote(par(|a|) par(|b|))");
    }

    private static void lastLines() {
        is("- ~~~\n  a\n  ~~~\n  b", "list0(item(code|a\n| par(|b|)))");
        is("- ~~~\n  a\n\n  ~~~\n  b", "list0(item(code|a\n\n| par(|b|)))");
        is("-     a\n  b", "list0(item(code|a\n| par(|b|)))");
        is("- a\n  ---\n  b", "list0(item(head2(|a|) par(|b|)))");
        is("- [x]: y\n  a\n  ---\n  b", "list0(item(head2(|a|) par(|b|)))");
        is("- > a\n  b", "list0(item(quote(par(|a| soft |b|))))");
        is("- > a\n  b\n- c", "list0(item(quote(par(|a| soft |b|))) item(par(|c|)))");
    }

    private static void depth() {
        for (int n = 0; n <= 12; n++) {
            String quotes = ">".repeat(n);
            int lists = (12 - n) / 2;
            String inside = quotes + "- ".repeat(lists);
            Check.same(inside, Check.error(inside + "a"), "fine");
            Check.same(inside + "-", Check.error("\n" + inside + "- - a"), "5 0 1");
            boolean odd = (12 - n) % 2 == 1;
            Check.same(inside + ">", Check.error("\n\n" + inside + "> a"), odd ? "fine" : "5 0 2");
        }
        Check.same("a fence in the 12th", Check.error(">>>>>>>>>>>>```\n>>>>>>>>>>>>a"), "fine");
        Check.same("a heading in the 12th", Check.error(">>>>>>>>>>>># a"), "fine");
        Check.same("a rule in the 12th", Check.error(">>>>>>>>>>>>***"), "fine");
        Check.same("a second item in the 12th", Check.error("- - - - - - a\n          - b"), "fine");
        Check.same("another list in the 12th", Check.error("- - - - - - a\n          + b"), "fine");
        Check.same("one in the item itself", Check.error("- - - - - - a\n            - b"), "5 0 1");
        Check.same("a quote in the item itself", Check.error("- - - - - - a\n            > b"), "5 0 1");
        Check.same("closed ones don't count", Check.error(">>>>>>>>>>>>a\n\n>>>>>>>>>>>>b"), "fine");
        Check.same("the first line that is so", Check.error(">>>>>>>>>>>>a\n>>>>>>>>>>>>>b\n>>>>>>>>>>>>>c"), "5 0 1");
    }
}
