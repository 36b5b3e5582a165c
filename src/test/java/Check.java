import java.nio.charset.StandardCharsets;

/** What the tests share: a works with easy words for it, and a count of what is not as due. */
final class Check {
    final BookWorks works = new BookWorks();
    private static int wrong = 0;
    private static int looked = 0;

    static void same(String what, long got, long due) {
        looked++;
        if (got != due) {
            wrong++;
            System.out.println(what + " answered " + got + ", due is " + due);
        }
    }

    static void same(String what, String got, String due) {
        looked++;
        if (!got.equals(due)) {
            wrong++;
            System.out.println(what + " answered\n" + got + "\ndue is\n" + due);
        }
    }

    static void isTrue(String what, boolean got) {
        same(what, got ? 1 : 0, 1);
    }

    static void finish() {
        System.out.println(looked + " answers looked at, " + wrong + " wrong");
        if (wrong != 0) {
            System.exit(1);
        }
    }
}
