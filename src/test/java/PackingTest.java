import java.util.Arrays;
import java.util.Random;
import java.util.zip.DataFormatException;
import java.util.zip.Deflater;
import java.util.zip.Inflater;

/** Promises 21, 22 and 25: pack, unpack and its faults. */
public final class PackingTest {
    public static void main(String[] args) throws DataFormatException {
        packsAsTheDocumentTells();
        packsTooMuch();
        unpacksWhatOthersPacked();
        faults();
        Check.finish();
    }

    private static byte[] packed(byte[] b) {
        BookWorks x = new BookWorks();
        Check.tape(x, b);
        int n = x.pack();
        Check.same("pack()", n, x.about(2));
        return Check.output(x);
    }

    private static byte[][] samples() {
        Random r = new Random(4);
        byte[][] all = new byte[14][];
        all[0] = new byte[0];
        all[1] = Check.utf8("a");
        all[2] = Check.utf8("aaaa");
        all[3] = Check.utf8("abcabcabcabcabcbc abcdbcde xbcdef abcdef");
        all[4] = new byte[3000];
        for (int k = 5; k < all.length; k++) {
            int[] lengths = {200, 900, 2047, 2049, 5000, 300, 2500, 4200, 9000};
            all[k] = new byte[lengths[k - 5]];
            for (int i = 0; i < all[k].length; i++) {
                all[k][i] = (byte) (k % 3 == 0 ? r.nextInt(256) : k % 3 == 1 ? Math.abs(r.nextGaussian()) * 9 : 'a' + r.nextInt(3));
            }
        }
        System.arraycopy(all[13], 0, all[13], 8200, 400);
        return all;
    }

    private static void packsAsTheDocumentTells() throws DataFormatException {
        byte[][] all = samples();
        for (int k = 0; k < all.length; k++) {
            byte[] got = packed(all[k]);
            Check.isTrue("sample " + k + " as the model packs it", Arrays.equals(got, Packs.model(all[k])));
            Inflater inflater = new Inflater(true);
            inflater.setInput(got);
            byte[] back = new byte[all[k].length + 1];
            int n = inflater.inflate(back);
            Check.isTrue("sample " + k + " is finished", inflater.finished());
            Check.isTrue("sample " + k + " comes back", Arrays.equals(Arrays.copyOf(back, n), all[k]));
            inflater.end();
        }
    }

    private static void packsTooMuch() {
        Random r = new Random(7);
        byte[] b = new byte[24000];
        r.nextBytes(b);
        BookWorks x = new BookWorks();
        Check.tape(x, "abc");
        int n = x.pack();
        Check.tape(x, b);
        boolean thrown = false;
        try {
            x.pack();
        } catch (IllegalStateException e) {
            thrown = true;
        }
        Check.isTrue("24000 odd bytes can't be packed", thrown);
        Check.same("the output stays", x.about(2), n);
        Check.same("and the tape", x.about(0), 24000);
        x.cut(23940);
        Check.same("12 blocks of 5 bytes more", x.pack(), 24000);
        x.take();
        Check.same("unpacked", x.unpack(), 23940);
        x.cut(0);
        for (int k = 0; k < 1200; k++) {
            x.end(20);
        }
        Check.isTrue("noughts become few", x.pack() < 60);
    }

    private static void unpacksWhatOthersPacked() {
        byte[][] all = samples();
        for (int level = 0; level < 10; level += 3) {
            for (int k = 0; k < all.length; k++) {
                Deflater deflater = new Deflater(level, true);
                deflater.setInput(all[k]);
                deflater.finish();
                byte[] b = new byte[20000];
                int n = deflater.deflate(b);
                deflater.end();
                BookWorks x = new BookWorks();
                Check.tape(x, Arrays.copyOf(b, n + 2));
                Check.same("unpack() of level " + level, x.unpack(), all[k].length);
                Check.isTrue("sample " + k + " of level " + level, Arrays.equals(Check.output(x), all[k]));
                Check.same("fault(0)", x.fault(0), 0);
                Check.same("fault(1)", x.fault(1), -1);
                Check.same("fault(2)", x.fault(2), -1);
            }
        }
    }

    private static String unpacked(byte[] b) {
        BookWorks x = new BookWorks();
        Check.tape(x, "kept");
        x.pack();
        int before = x.about(2);
        Check.tape(x, b);
        try {
            return "" + x.unpack();
        } catch (IllegalArgumentException e) {
            Check.same("the output stays", x.about(2), before);
            Check.same("no file", x.fault(1), -1);
            Check.same("another what", x.fault(3), -1);
            return x.fault(0) + " at " + x.fault(2);
        }
    }

    private static void faults() {
        Check.same("nothing", unpacked(new byte[0]), "1 at 0");
        Check.same("a block of none", unpacked(Check.bytes(3, 0)), "0");
        Check.same("that ends too early", unpacked(Check.bytes(3)), "1 at 1");
        Check.same("kind 3", unpacked(Check.bytes(7, 0)), "2 at 1");
        Check.same("kind 3 behind another", unpacked(Packs.bits("0 10 0000000", "0 11")), "2 at 2");
        Check.same("stored", unpacked(Check.bytes(1, 2, 0, 253, 255, 65, 66, 9)), "2");
        Check.same("stored, too early", unpacked(Check.bytes(1, 2, 0, 253, 255, 65)), "1 at 6");
        Check.same("stored, its lengths too early", unpacked(Check.bytes(1, 2, 0, 253)), "1 at 4");
        Check.same("stored, lengths that don't agree", unpacked(Check.bytes(1, 2, 0, 253, 254, 65, 66)), "3 at 5");
        Check.same("287 literals", unpacked(Packs.bits(Packs.dynamic(287, 1, 0, 0, 0, 0))), "4 at 3");
        Check.same("31 distances", unpacked(Packs.bits(Packs.dynamic(257, 31, 0, 0, 0, 0))), "4 at 3");
        Check.same("287 literals, told too early", unpacked(Arrays.copyOf(Packs.bits(Packs.dynamic(287, 1, 0, 0, 0, 0)), 2)), "1 at 2");
        Check.same("no code of the 19", unpacked(Packs.bits(Packs.dynamic(257, 1, 0, 0, 0, 0))), "5 at 4");
        Check.same("one code of the 19", unpacked(Packs.bits(Packs.dynamic(257, 1, 0, 0, 1, 0))), "5 at 4");
        Check.same("too many codes of the 19", unpacked(Packs.bits(Packs.dynamic(257, 1, 1, 1, 1, 0))), "5 at 4");
        Check.same("a repetition without one ahead", unpacked(Packs.bits(Packs.dynamic(257, 1, 1, 0, 0, 1), "1")), "6 at 4");
        Check.same("a repetition beyond the row",
            unpacked(Packs.bits(Packs.dynamic(257, 1, 0, 0, 1, 1), "1" + Packs.number(127, 7), "1" + Packs.number(127, 7))), "6 at 6");
        // 18 has length 1 (code 0), 0 and 1 have length 2 (codes 10 and 11).
        int[] three = {0, 0, 1, 2, 0, 0, 0, 0, 0, 0, 0, 0, 0, 0, 0, 0, 0, 2};
        String noughts256 = "0" + Packs.number(127, 7) + "0" + Packs.number(107, 7);
        Check.same("literals with one code", unpacked(Packs.bits(Packs.dynamic(257, 1, three), noughts256, "11", "10")), "5 at 12");
        String from97 = "0" + Packs.number(86, 7) + "11" + "0" + Packs.number(127, 7) + "0" + Packs.number(9, 7);
        Check.same("none for 256", unpacked(Packs.bits(Packs.dynamic(258, 1, three),
            "0" + Packs.number(86, 7) + "11" + "11" + "0" + Packs.number(127, 7) + "0" + Packs.number(10, 7), "10")), "5 at 13");
        String aAndEnd = Packs.dynamic(257, 1, three) + from97 + "11";
        Check.same("a and the end, no distances", unpacked(Packs.bits(aAndEnd + "10", "0", "0", "1")), "2");
        Check.same("a distance code that is one", unpacked(Packs.bits(aAndEnd + "11", "0", "0", "1")), "2");
        Check.same("literal 286", unpacked(Packs.bits("1 10", "11000110")), "7 at 2");
        Check.same("distance 30", unpacked(Packs.bits("1 10", "10010001", "0000001", "11110")), "7 at 3");
        Check.same("a distance beyond", unpacked(Packs.bits("1 10", "10010001", "0000001", "00001")), "8 at 3");
        Check.same("a distance within", unpacked(Packs.bits("1 10", "10010001", "0000001", "00000", "0000000")), "4");
        byte[] many = new byte[24001];
        Deflater deflater = new Deflater(9, true);
        deflater.setInput(many);
        deflater.finish();
        byte[] b = new byte[1000];
        int n = deflater.deflate(b);
        Check.same("24001 bytes", unpacked(Arrays.copyOf(b, n)).substring(0, 4), "9 at");
        deflater.end();
    }
}
