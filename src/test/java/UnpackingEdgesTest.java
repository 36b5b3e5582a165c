import java.util.Arrays;

/** UNPACKING and promises 22 and 25 at their boundaries: each fault, and what is just no fault. */
public final class UnpackingEdgesTest {
    /** The end of a fixed block, a byte a, and a match of 258 at distance 1. */
    private static final String END = "0000000";
    private static final String A = "10010001";
    private static final String MATCH = "11000101" + "00000";
    private static int[] literals;
    private static int[] distances;

    public static void main(String[] args) {
        endsTooEarly();
        kinds();
        storedLengths();
        numbersOfCodes();
        alphabets();
        literalCodes();
        distanceCodes();
        blocksBehindBlocks();
        repetitions();
        codesThatAreNone();
        distancesBeyond();
        tooManyBytes();
        behindTheLastBlock();
        whatIsKept();
        whatFaultTells();
        Check.finish();
    }

    private static String unpacked(byte[] b) {
        BookWorks x = new BookWorks();
        Check.tape(x, b);
        try {
            int n = x.unpack();
            Check.same("about(2)", x.about(2), n);
            Check.same("fault(0)", x.fault(0), 0);
            Check.same("fault(2)", x.fault(2), -1);
            return "" + n;
        } catch (IllegalArgumentException e) {
            Check.same("fault(1)", x.fault(1), -1);
            Check.same("the output", x.about(2), 0);
            Check.tapeIs("the tape stays", x, b);
            return x.fault(0) + " at " + x.fault(2);
        }
    }

    private static void is(String what, String due, String... rows) {
        Check.same(what, unpacked(Packs.bits(rows)), due);
    }

    /** A fault with the place that is behind these rows of bits. */
    private static void fault(String what, int fault, String... rows) {
        int bits = String.join("", rows).replace(" ", "").length();
        Check.same(what, unpacked(Packs.bits(String.join("", rows) + "0".repeat(40))), fault + " at " + (bits + 7) / 8);
    }

    private static void endsTooEarly() {
        byte[] text = Check.utf8("some words, some words and others: abcdefghijklmnopqrstuvwxyz ABCDEFGHIJKLMNOPQRSTUVWXYZ"
            + " some words and so on, and on, and on and again some words; and again others, others 0123456789, and others");
        byte[][] all = {Check.bytes(1, 3, 0, 252, 255, 65, 66, 67), Packs.bits("1 10" + A + A + MATCH + END),
            Packs.model(text), Packs.model(new byte[0]), joinedBlocks()};
        for (byte[] b : all) {
            Check.isTrue("it is whole", !unpacked(b).contains("at"));
            for (int n = 0; n < b.length; n++) {
                Check.same("its first " + n, unpacked(Arrays.copyOf(b, n)), "1 at " + n);
            }
        }
        Check.same("a block that is not the last", unpacked(Packs.bits("0 10" + END)), "1 at 2");
        Check.same("just up to a byte's end", unpacked(Packs.bits("0 10" + A + END + "1 10 " + END.substring(0, 3))), "1 at 3");
    }

    private static byte[] joinedBlocks() {
        return Packs.bits("0 10" + A + END, "0 00" + "000", Packs.number(1, 16), Packs.number(65534, 16),
            Packs.number(66, 8), "1 10" + A + END);
    }

    private static void kinds() {
        fault("kind 3 at first", 2, "0 11");
        fault("kind 3 as the last", 2, "1 11");
        fault("kind 3 as the second", 2, "0 10" + END, "1 11");
        fault("kind 3 behind a stored one", 2, "0 00 00000", Packs.number(0, 16), Packs.number(65535, 16), "0 11");
        is("kinds 0, 1", "3", "0 00 00000", Packs.number(1, 16), Packs.number(65534, 16), Packs.number(7, 8), "1 10" + A + A + END);
        Check.same("all kinds", unpacked(joinedBlocks()), "3");
    }

    private static void storedLengths() {
        for (int n : new int[] {0, 1, 255, 256, 257, 4000}) {
            byte[] b = new byte[n + 5];
            b[0] = 1;
            b[1] = (byte) n;
            b[2] = (byte) (n >> 8);
            b[3] = (byte) ~n;
            b[4] = (byte) (~n >> 8);
            Check.same("stored " + n, unpacked(b), "" + n);
            if (n > 0) {
                Check.same("stored " + n + ", one too few", unpacked(Arrays.copyOf(b, n + 4)), "1 at " + (n + 4));
            }
            for (int bit = 8; bit < 40; bit++) {
                byte[] other = b.clone();
                other[bit / 8] ^= 1 << bit % 8;
                Check.same("stored " + n + ", bit " + bit, unpacked(other), "3 at 5");
            }
        }
        // A byte above 143 takes nine bits: the stored block's header ends at a byte's end, and nothing is left out.
        is("no bits up to a byte's end", "4", "0 10" + "110010000".repeat(3) + END, "1 00", Packs.number(1, 16),
            Packs.number(65534, 16), Packs.number(66, 8));
        Check.same("what stands up to a byte's end is anything", unpacked(Check.bytes(0xF9, 1, 0, 254, 255, 65)), "1");
        fault("behind another block", 3, "0 10" + END, "1 00" + "000", Packs.number(1, 16), Packs.number(1, 16));
    }

    private static void numbersOfCodes() {
        String[] most = {Packs.dynamic(286, 1, 0, 0, 0, 0), Packs.dynamic(257, 30, 0, 0, 0, 0), Packs.dynamic(286, 30, 0, 0, 0, 0)};
        for (String head : most) {
            fault("286 and 30 are not too many", 5, head);
        }
        int[][] more = {{287, 1}, {288, 1}, {257, 31}, {257, 32}, {287, 31}, {288, 32}, {286, 31}, {287, 30}};
        for (int[] two : more) {
            String head = Packs.dynamic(two[0], two[1], 0, 0, 0, 0);
            fault(two[0] + " and " + two[1], 4, head.substring(0, head.length() - 12));
        }
    }

    private static void alphabets() {
        int[][] wrong = {{0, 0, 0, 0}, {1, 0, 0, 0}, {1, 1, 1, 0}, {2, 2, 2, 0}, {1, 2, 0, 0}, {7, 7, 7, 7}, {1, 1, 7, 0}, {2, 1, 1, 0}};
        for (int[] lengths : wrong) {
            fault("an alphabet of " + Arrays.toString(lengths), 5, Packs.dynamic(257, 1, lengths));
        }
        // 17 has code 0, 18 has code 1: the row can be told, but has no code at all.
        String noughts = Packs.dynamic(257, 1, 0, 1, 1, 0);
        fault("a row of noughts alone", 5, noughts, "1" + Packs.number(127, 7), "1" + Packs.number(109, 7));
        fault("19 lengths, all of them", 5, Packs.dynamic(257, 1, 4, 4, 4, 4, 4, 4, 4, 4, 4, 4, 4, 4, 4, 4, 4, 5, 5, 5, 5));
        fault("19 lengths, too many", 5, Packs.dynamic(257, 1, 4, 4, 4, 4, 4, 4, 4, 4, 4, 4, 4, 4, 4, 4, 4, 4, 4, 0, 0));
    }

    /** A block whose lengths are told one by one, by an alphabet of 0 .. 15 with four bits each. */
    private static String plain() {
        int[] order = {16, 17, 18, 0, 8, 7, 9, 6, 10, 5, 11, 4, 12, 3, 13, 2, 14, 1, 15};
        StringBuilder s = new StringBuilder("1 01" + Packs.number(literals.length - 257, 5) + Packs.number(distances.length - 1, 5)
            + Packs.number(15, 4));
        for (int k : order) {
            s.append(Packs.number(k < 16 ? 4 : 0, 3));
        }
        for (int length : literals) {
            s.append(new StringBuilder(Packs.number(length, 4)).reverse());
        }
        for (int length : distances) {
            s.append(new StringBuilder(Packs.number(length, 4)).reverse());
        }
        return s.toString();
    }

    private static void codes(int... more) {
        literals = new int[257];
        distances = more;
    }

    private static void literalCodes() {
        codes(0);
        fault("no literals", 5, plain());
        literals[256] = 1;
        fault("one literal", 5, plain());
        literals[97] = 1;
        is("two literals", "1", plain(), "0", "1");
        literals[98] = 1;
        fault("three of length 1", 5, plain());
        literals[97] = 2;
        literals[98] = 2;
        is("1 and 2 and 2", "2", plain(), "10", "11", "0");
        literals[98] = 3;
        fault("1 and 2 and 3", 5, plain());
        literals[98] = 2;
        literals[256] = 0;
        literals[99] = 1;
        fault("none for 256", 5, plain());
        literals[99] = 0;
        literals[256] = 15;
        fault("far from whole", 5, plain());
        codes(0);
        for (int k = 0; k < 256; k++) {
            literals[k] = 8;
        }
        fault("256 of length 8 alone", 5, plain());
        literals[256] = 8;
        fault("257 of length 8", 5, plain());
        literals[255] = 9;
        literals[256] = 9;
        is("255 of length 8 and two of 9", "2", plain(), "00000000", "111111110", "111111111");
        codes(0);
        for (int k = 1; k < 15; k++) {
            literals[k] = k;
        }
        literals[15] = 15;
        literals[256] = 15;
        is("lengths 1 to 15", "2", plain(), "0", "111111111111110", "111111111111111");
    }

    private static void distanceCodes() {
        int[][] fine = {{0}, {1}, {1, 1}, {1, 2, 2}, {0, 1}, {0, 0, 0, 1}, {2, 2, 2, 2}, {1, 0, 2, 3, 3}};
        for (int[] row : fine) {
            codes(row);
            literals[97] = 1;
            literals[256] = 1;
            is("distances " + Arrays.toString(row), "1", plain(), "0", "1");
        }
        int[][] wrong = {{2}, {15}, {1, 1, 1}, {1, 2}, {2, 2}, {2, 2, 2}, {1, 1, 2}, {0, 2}, {3, 3, 3, 3, 3, 3, 3}, {1, 2, 3}};
        for (int[] row : wrong) {
            codes(row);
            literals[97] = 1;
            literals[256] = 1;
            fault("distances " + Arrays.toString(row), 5, plain());
        }
    }

    /** A block of this kind that is not the last, and one that is. */
    private static void blocksBehindBlocks() {
        codes(1);
        for (int k = 1; k < 15; k++) {
            literals[k] = k;
        }
        literals[15] = 15;
        literals[256] = 15;
        String first = "0" + plain().substring(1) + "111111111111110" + "111111111111111";
        codes(1);
        literals[97] = 1;
        literals[256] = 1;
        is("shorter codes behind long ones", "2", first, plain(), "0", "1");
        String second = "0" + plain().substring(1) + "0" + "1";
        is("one distance, and again one", "2", second, plain(), "0", "1");
        codes(0, 0, 0);
        literals[97] = 1;
        literals[256] = 1;
        is("one distance, and then none", "2", second, plain(), "0", "1");
        codes(2, 0, 0);
        literals[97] = 1;
        literals[256] = 1;
        fault("one distance, and then one of length 2", 5, second, plain());
        codes(0, 0, 0);
        literals[97] = 1;
        literals[256] = 1;
        String third = "0" + plain().substring(1) + "0" + "1";
        codes(1);
        literals[97] = 1;
        literals[256] = 1;
        is("no distance, and then one", "2", third, plain(), "0", "1");
        is("no distance, one, and again none", "3", third, second, "1" + third.substring(1));
        is("fixed codes behind others", "3", first, second, "1 10" + A + END);
        is("others behind fixed codes", "2", "0 10" + A + END, "1" + second.substring(1));
    }

    private static void repetitions() {
        // 0 has code 0, and 16, 17 or 18 has code 1.
        String sixteen = Packs.dynamic(257, 1, 1, 0, 0, 1);
        fault("16 at first", 6, sixteen, "1");
        // 258 lengths are due: one nought and 42 times 6 of them make 253.
        String most = sixteen + "0" + ("1" + Packs.number(3, 2)).repeat(42);
        fault("16 just up to the row's end", 5, most, "1" + Packs.number(2, 2));
        fault("16 beyond the row", 6, most, "1" + Packs.number(3, 2));
        String seventeen = Packs.dynamic(257, 1, 0, 1, 0, 1);
        String many = seventeen + ("1" + Packs.number(7, 3)).repeat(25);
        fault("17 just up to the row's end", 5, many, "1" + Packs.number(5, 3));
        fault("17 beyond the row", 6, many, "1" + Packs.number(6, 3));
        String eighteen = Packs.dynamic(257, 1, 0, 0, 1, 1);
        fault("18 just up to the row's end", 5, eighteen, "1" + Packs.number(127, 7), "1" + Packs.number(109, 7));
        fault("18 beyond the row", 6, eighteen, "1" + Packs.number(127, 7), "1" + Packs.number(110, 7));
        fault("18 far beyond the row", 6, eighteen, "1" + Packs.number(127, 7), "1" + Packs.number(127, 7));
        // 18: 0, 1: 10, 16: 11. A repetition goes on from literals into distances.
        int[] three = {2, 0, 1, 0, 0, 0, 0, 0, 0, 0, 0, 0, 0, 0, 0, 0, 0, 2};
        is("16 goes on into distances", "0", Packs.dynamic(258, 2, three), "0" + Packs.number(127, 7), "0" + Packs.number(107, 7),
            "10", "11" + Packs.number(0, 2), "0");
        fault("16 goes on beyond distances", 6, Packs.dynamic(258, 2, three), "0" + Packs.number(127, 7),
            "0" + Packs.number(107, 7), "10", "11" + Packs.number(1, 2));
    }

    private static void codesThatAreNone() {
        is("literal 285", "259", "1 10" + A + MATCH + END);
        fault("literal 286", 7, "1 10" + A + "11000110");
        fault("literal 287", 7, "1 10" + A + "11000111");
        fault("distance 30", 7, "1 10" + A + "0000001" + "11110");
        fault("distance 31", 7, "1 10" + A + "0000001" + "11111");
        fault("distance 29 is one, but beyond", 8, "1 10" + A + "0000001" + "11101" + "0".repeat(13));
        // One code of length 1: 0 is that, 1 is not in the code.
        literals = new int[258];
        distances = new int[] {1};
        literals[97] = 1;
        literals[256] = 2;
        literals[257] = 2;
        is("the only distance", "4", plain(), "0", "11" + "0", "10");
        fault("not the only distance", 7, plain(), "0", "11" + "1" + "0".repeat(14));
        distances = new int[] {0};
        fault("no distance at all", 7, plain(), "0", "11" + "0".repeat(15));
        distances = new int[] {0, 1};
        is("distance 2 as the only one", "5", plain(), "0", "0", "11" + "0", "10");
    }

    private static void distancesBeyond() {
        for (int n = 1; n < 5; n++) {
            String ahead = "1 10" + A.repeat(n);
            for (int d = 0; d < 4; d++) {
                String match = "0000001" + new StringBuilder(Packs.number(d, 5)).reverse();
                if (d < n) {
                    is("distance " + (d + 1) + " behind " + n, "" + (n + 3), ahead, match, END);
                } else {
                    fault("distance " + (d + 1) + " behind " + n, 8, ahead, match);
                }
            }
        }
        fault("at first", 8, "1 10" + "0000001" + "00000");
        is("into the block ahead", "5", "0 10" + A + A + END, "1 10" + "0000001" + "00001" + END);
        fault("beyond the block ahead", 8, "0 10" + A + A + END, "1 10" + "0000001" + "00010");
        // Distance 5 to 8 by codes 4 and 5, with a bit behind.
        is("distance 6", "9", "1 10" + A.repeat(6) + "0000001" + "00100" + "1" + END);
        fault("distance 7", 8, "1 10" + A.repeat(6) + "0000001" + "00101" + "0");
    }

    private static void tooManyBytes() {
        String most = "1 10" + A + MATCH.repeat(93);
        is("23995", "23995", most, END);
        is("24000", "24000", most, A.repeat(5), END);
        fault("24001 by a byte", 9, most, A.repeat(6));
        is("24000 by a match", "24000", most, "0000011" + "00000", END);
        fault("24001 by a match", 9, most, "0000100" + "00000");
        fault("24002 by a match", 9, most, "0000101" + "00000");
        is("24000, and another block", "24000", "0" + most.substring(1), A.repeat(5), END, "1 10" + END);
        fault("24000, and another block with a byte", 9, "0" + most.substring(1), A.repeat(5), END, "1 10" + A);
        String ahead = ("0" + most.substring(1) + A.repeat(3) + END + "1 00").replace(" ", "");
        String up = "0".repeat((8 - ahead.length() % 8) % 8);
        is("24000 by stored bytes", "24000", ahead, up, Packs.number(2, 16), Packs.number(65533, 16), Packs.number(65, 16));
        String three = unpacked(Packs.bits(ahead, up, Packs.number(3, 16), Packs.number(65532, 16), Packs.number(65, 24)));
        Check.same("24001 by stored bytes", three.substring(0, 2), "9 ");
        fault("a distance beyond comes first", 8, "1 10" + MATCH);
    }

    private static void behindTheLastBlock() {
        is("bits behind, noughts", "0", "1 10" + END + "000000");
        is("bits behind, ones", "0", "1 10" + END + "111111");
        Check.same("bytes behind", unpacked(Check.bytes(3, 0, 7, 7, 7)), "0");
        Check.same("stored, bytes behind", unpacked(Check.bytes(1, 1, 0, 254, 255, 65, 7, 7)), "1");
        is("a block behind the last", "1", "1 10" + A + END, "1 11");
    }

    private static void whatIsKept() {
        BookWorks x = new BookWorks();
        Check.outputOf(x, Check.utf8("kept"));
        Check.tape(x, Check.bytes(7));
        boolean thrown = false;
        try {
            x.unpack();
        } catch (IllegalArgumentException e) {
            thrown = true;
        }
        Check.isTrue("it throws", thrown);
        Check.same("the output stays", new String(Check.output(x)), "kept");
        Check.tape(x, Check.bytes(1, 2, 0, 253, 255, 65, 66));
        Check.same("unpack()", x.unpack(), 2);
        Check.same("the output is another", new String(Check.output(x)), "AB");
        Check.tapeIs("the tape stays", x, Check.bytes(1, 2, 0, 253, 255, 65, 66));
    }

    private static void whatFaultTells() {
        BookWorks x = new BookWorks();
        for (int what = -1; what <= 3; what++) {
            Check.same("fault(" + what + ") of a new object", x.fault(what), what == 0 ? 0 : -1);
        }
        Check.tape(x, Check.bytes(7));
        try {
            x.unpack();
        } catch (IllegalArgumentException e) {
            Check.same("fault(0)", x.fault(0), 2);
        }
        Check.same("fault(1)", x.fault(1), -1);
        Check.same("fault(2)", x.fault(2), 1);
        for (int what : new int[] {-1, 3, 4, Integer.MIN_VALUE, Integer.MAX_VALUE}) {
            Check.same("fault(" + what + ")", x.fault(what), -1);
        }
        Check.tape(x, "<a/>");
        Check.same("xml()", x.xml(), 1);
        Check.same("fault(0) behind xml()", x.fault(0), 0);
        Check.same("fault(2) behind xml()", x.fault(2), -1);
        Check.tape(x, Check.bytes(7));
        try {
            x.unpack();
        } catch (IllegalArgumentException e) {
            Check.same("fault(0) again", x.fault(0), 2);
        }
        Check.tape(x, Check.bytes(3, 0));
        Check.same("unpack() without a fault", x.unpack(), 0);
        Check.same("fault(0) behind it", x.fault(0), 0);
        Check.same("fault(2) behind it", x.fault(2), -1);
        for (int what = -1; what <= 3; what++) {
            Check.same("fault(" + what + ") behind xml()", x.fault(what), what == 0 ? 0 : -1);
        }
    }
}
