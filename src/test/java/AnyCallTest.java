import java.util.Random;

/** Any calls with any arguments in any state: nothing is thrown but what the document names. */
public final class AnyCallTest {
    private static final String[] PIECES = {"# h\n", "a", "**b**", "*c", " ", "\n", "\n\n", "> ", "- ", "1. ", "[x](#h)",
        "[x][y]", "![a](b)", "`c`", "\t", "```\n", "    ", "[y]: z\n", "&#65;", "&#1;", "<b>", "é", "~~~ i\n", "===\n",
        "---\n", "<http://a.b>", "\\", "_d_", "[", "]", "(", ")", "\r", "!"};
    private static final String[] TAGS = {"<p>", "</p>", "<p/>", "<ul>", "</ul>", "<li>", "</li>", "<ol start=\"3\">",
        "</ol>", "<em id=\"x\">", "</em>", "<a href=\"#x\">", "</a>", "text ", "&amp;", "<br/>", "<hr/>", "<h2>", "</h2>",
        "<pre><code>", "</code></pre>", "<blockquote>", "</blockquote>", "&", "<", "\""};
    private static Random random;

    public static void main(String[] args) {
        for (int run = 0; run < 3000; run++) {
            random = new Random(run);
            BookWorks x = new BookWorks();
            for (int k = 0; k < 40; k++) {
                change(x);
                ask(x);
            }
            Check.isTrue("run " + run, true);
        }
        memory();
        Check.finish();
    }

    private static int any() {
        int[] edges = {-1, -2, Integer.MAX_VALUE, Integer.MIN_VALUE, 0, 1, 2, 3, 12, 400, 3000, 24000};
        return random.nextInt(4) == 0 ? random.nextInt() : edges[random.nextInt(edges.length)];
    }

    private static String text(String[] pieces, int most) {
        StringBuilder b = new StringBuilder();
        for (int k = random.nextInt(most); k > 0; k--) {
            b.append(pieces[random.nextInt(pieces.length)]);
        }
        return b.toString();
    }

    private static void change(BookWorks x) {
        switch (random.nextInt(14)) {
            case 0:
                x.feed(any(), any(), any(), any(), any());
                x.end(random.nextInt(25) - 2);
                break;
            case 1:
                x.cut(random.nextBoolean() ? any() : random.nextInt(x.about(0) + 1));
                break;
            case 2:
                x.flip(random.nextInt(x.about(0) + 2) - 1, random.nextInt(10) - 1);
                break;
            case 3:
                x.take();
                break;
            case 4:
                Check.tape(x, text(PIECES, 40));
                break;
            case 5:
                Check.tape(x, Check.archive(Check.bookFiles(Check.html(text(TAGS, 12)))));
                break;
            case 6:
                if (random.nextInt(4) == 0) {
                    x.drop();
                }
                break;
            default:
                work(x, random.nextInt(8));
                break;
        }
    }

    /** What may throw; that an exception is one of those that the document names is what is tested. */
    private static void work(BookWorks x, int which) {
        try {
            switch (which) {
                case 0:
                    x.chapter();
                    break;
                case 1:
                    x.pack();
                    break;
                case 2:
                    x.pages(random.nextInt(62), random.nextInt(84));
                    break;
                case 3:
                    x.compile();
                    break;
                default:
                    workOnBytes(x, which);
                    break;
            }
        } catch (IllegalStateException e) {
            Check.isTrue("a state", which < 4);
        } catch (IllegalArgumentException e) {
            Check.isTrue("an argument", which > 1);
        }
    }

    private static void workOnBytes(BookWorks x, int which) {
        switch (which) {
            case 4:
                x.unpack();
                break;
            case 5:
                x.xml();
                break;
            default:
                x.read();
                break;
        }
    }

    private static void ask(BookWorks x) {
        x.error(any());
        x.fault(any());
        x.nodes(any());
        x.node(random.nextInt(3), random.nextInt(40) - 1, random.nextInt(8) - 1);
        x.node(any(), any(), any());
        x.letter(random.nextInt(3), random.nextInt(40), random.nextBoolean(), random.nextInt(9) - 1);
        x.letter(any(), any(), true, any());
        x.heading(any(), any());
        x.heading(random.nextInt(3), random.nextInt(6));
        x.name(random.nextInt(3), any());
        x.term(random.nextInt(3), any());
        x.sign(random.nextInt(3), any());
        x.about(any());
        x.output(any());
        x.crc();
        x.cell(any(), any(), any());
        x.cell(random.nextInt(3), random.nextInt(61), random.nextInt(81));
        x.page(any(), any());
        x.page(random.nextInt(3), random.nextInt(3));
        x.find(random.nextInt(4) - 1);
        x.find(any());
    }

    /** Rows are made once: calls that are made again and again take no more room. */
    private static void memory() {
        BookWorks x = Check.book("# A\n\nb **c** [d](#a)\n\n- e\n", "> f\n\n```\ng\n```");
        x.take();
        x.read();
        x.read();
        x.pages(10, 20);
        com.sun.management.ThreadMXBean threads =
            (com.sun.management.ThreadMXBean) java.lang.management.ManagementFactory.getThreadMXBean();
        long before = threads.getThreadAllocatedBytes(Thread.currentThread().getId());
        for (int k = 0; k < 100; k++) {
            x.compile();
            x.take();
            x.read();
            x.pages(10, 20);
            x.pack();
            x.find(0);
        }
        long bytes = threads.getThreadAllocatedBytes(Thread.currentThread().getId()) - before;
        Check.isTrue("100 rounds take " + bytes + " bytes", bytes < 100000);
    }
}
