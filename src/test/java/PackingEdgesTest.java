import java.util.Arrays;
import java.util.Random;
import java.util.zip.DataFormatException;
import java.util.zip.Inflater;

/** PACKING and promise 21 at their boundaries: each time byte by byte as the model has it. */
public final class PackingEdgesTest {
    public static void main(String[] args) throws DataFormatException {
        fewBytes();
        sizesOfMatches();
        distances();
        theNearest();
        aLongerOneAtTheNextPlace();
        partsInABlock();
        waysThatTakeAsMany();
        rowsOfNoughts();
        rowsOfLikeLengths();
        limitsOfLengths();
        distanceCodes();
        mostBytes();
        Check.finish();
    }

    private static int packed(String what, byte[] b) throws DataFormatException {
        BookWorks x = new BookWorks();
        Check.tape(x, b);
        int n = x.pack();
        byte[] got = Check.output(x);
        Check.same(what + ": its number", n, got.length);
        Check.isTrue(what + ": as the model packs it", Arrays.equals(got, Packs.model(b)));
        Check.tapeIs(what, x, b);
        Inflater inflater = new Inflater(true);
        inflater.setInput(got);
        byte[] back = new byte[b.length + 1];
        int size = inflater.inflate(back);
        Check.isTrue(what + ": it comes back", inflater.finished() && Arrays.equals(Arrays.copyOf(back, size), b));
        inflater.end();
        x.take();
        Check.same(what + ": unpack()", x.unpack(), b.length);
        Check.isTrue(what + ": unpacked", Arrays.equals(Check.output(x), b));
        return n;
    }

    private static byte[] random(int n, int from, int kinds, long seed) {
        Random r = new Random(seed);
        byte[] b = new byte[n];
        for (int k = 0; k < n; k++) {
            b[k] = (byte) (from + r.nextInt(kinds));
        }
        return b;
    }

    /** No three bytes of it come twice. */
    private static byte[] different(int n) {
        byte[] b = new byte[n];
        for (int k = 0; k < n; k++) {
            b[k] = (byte) (k % 2 == 0 ? k / 2 % 251 : 255 - k / 502);
        }
        return b;
    }

    private static byte[] joined(byte[]... all) {
        java.io.ByteArrayOutputStream o = new java.io.ByteArrayOutputStream();
        for (byte[] b : all) {
            o.writeBytes(b);
        }
        return o.toByteArray();
    }

    private static void fewBytes() throws DataFormatException {
        Check.same("none", packed("none", new byte[0]), 2);
        for (int n = 1; n < 12; n++) {
            packed(n + " alike", new byte[n]);
            packed(n + " others", different(n));
        }
        packed("each byte", different(512));
        byte[] all = new byte[256];
        for (int k = 0; k < 256; k++) {
            all[k] = (byte) k;
        }
        packed("all bytes", all);
        packed("all bytes twice", joined(all, all));
    }

    private static void sizesOfMatches() throws DataFormatException {
        byte[] ahead = different(600);
        for (int n : new int[] {1, 2, 3, 4, 9, 10, 11, 12, 13, 17, 18, 19, 22, 23, 34, 35, 66, 67, 114, 115, 130, 131, 162, 163,
            226, 227, 256, 257, 258, 259, 260, 261, 262, 515, 516, 517, 518, 519}) {
            packed("a row of " + n + " again", joined(ahead, Arrays.copyOf(ahead, n)));
            packed("a row of " + n + " again, and more", joined(ahead, Arrays.copyOf(ahead, n), Check.bytes(254, 1, 253, 1)));
            packed("a row of " + n + " alike", joined(new byte[n + 1], Check.bytes(1, 2, 3)));
        }
    }

    private static void distances() throws DataFormatException {
        byte[] mark = random(40, 0, 256, 5);
        for (int d : new int[] {41, 48, 49, 64, 65, 96, 97, 128, 129, 192, 193, 256, 257, 384, 385, 512, 513, 768, 769, 1024,
            1025, 1536, 1537, 2048, 2049, 3072, 3073, 4096, 4097, 6144, 6145, 8190, 8191, 8192, 8193, 8194}) {
            byte[] between = random(d - mark.length, 0, 256, d);
            packed("a distance of " + d, joined(mark, between, mark, Check.bytes(1, 2)));
        }
        for (int d = 1; d < 41; d++) {
            byte[] row = Arrays.copyOf(different(100), d);
            packed("a row of " + d + " again and again", joined(row, row, row, row));
        }
    }

    private static void theNearest() throws DataFormatException {
        packed("the nearest of three", Check.utf8("abcd1abcd2abcd3abcd"));
        packed("a longer one further off", Check.utf8("abcdef1abcd2abcde3abcdef"));
        packed("a nearer one that is shorter", Check.utf8("abcdefg-abcd-abcdefg"));
        byte[] mark = Check.utf8("0123456789");
        byte[] fill = random(8185, 128, 128, 3);
        packed("the longest is just too far", joined(mark, fill, Check.utf8("0123"), mark));
        packed("the longest is just near enough", joined(mark, Arrays.copyOf(fill, 8178), Check.utf8("0123"), mark));
        packed("a row of 258 far off and near", joined(new byte[300], different(300), new byte[300]));
    }

    private static void aLongerOneAtTheNextPlace() throws DataFormatException {
        packed("one longer", Check.utf8("abc-bcde-abcde"));
        packed("as long", Check.utf8("abc-bcd-abcd"));
        packed("longer and longer", Check.utf8("abc-bcde-cdefg-abcdefg"));
        packed("longer, then as long", Check.utf8("abc-bcde-cdef-abcdef"));
        packed("at the end", Check.utf8("abc-abc"));
        packed("one byte ahead of the end", Check.utf8("abc-abcd"));
        packed("258 and 258", joined(new byte[259], Check.bytes(1), new byte[258], Check.bytes(2)));
        for (int seed = 0; seed < 60; seed++) {
            packed("two kinds of bytes", random(200 + seed, 97, 2, seed));
            packed("three kinds of bytes", random(150 + 2 * seed, 97, 3, seed));
        }
    }

    private static void partsInABlock() throws DataFormatException {
        for (int n : new int[] {2046, 2047, 2048, 2049, 2050, 4095, 4096, 4097}) {
            packed(n + " bytes", random(n, 0, 256, n));
            packed(n + " different ones", different(n));
        }
        byte[] most = different(2047);
        packed("2047 bytes and a match", joined(most, Arrays.copyOf(most, 20)));
        packed("2047 bytes, a match and a byte", joined(most, Arrays.copyOf(most, 20), Check.bytes(7)));
        packed("2046 bytes and two matches", joined(Arrays.copyOf(most, 2046), Arrays.copyOf(most, 20), Arrays.copyOfRange(most, 40, 60)));
        packed("a match back into the block ahead", joined(different(2100), Arrays.copyOf(most, 100)));
    }

    private static void waysThatTakeAsMany() throws DataFormatException {
        // Bytes above 143 take nine bits each when fixed: with 30 of them stored takes as many.
        for (int n = 27; n < 34; n++) {
            byte[] b = new byte[n];
            for (int k = 0; k < n; k++) {
                b[k] = (byte) (150 + k * 3);
            }
            packed(n + " bytes above 143", b);
            byte[] mixed = b.clone();
            mixed[0] = 100;
            packed(n + " bytes, one below 144", mixed);
        }
        Check.same("as many: stored", Packs.model(Check.bytes(150, 153, 156, 159, 162, 165, 168, 171, 174, 177, 180, 183, 186,
            189, 192, 195, 198, 201, 204, 207, 210, 213, 216, 219, 222, 225, 228, 231, 234, 237)).length, 35);
        for (int seed : new int[] {7336, 16471, 44954, 157930, 158795, 166980}) {
            packed("fixed and dynamic alike, " + seed, fixedOrDynamic(seed));
        }
        for (int seed : new int[] {301, 1066, 1810}) {
            packed("stored and dynamic alike, " + seed, storedOrDynamic(seed));
        }
        for (int seed : new int[] {505, 1594, 1685, 2129, 2672}) {
            packed("the alphabet's last code is the shortest, " + seed, fewKinds(seed));
        }
        for (int seed = 0; seed < 3; seed++) {
            byte[] b = likeFixed(seed);
            packed("fixed blocks, one behind the other " + seed, b);
            Check.same("the first of them is fixed, and not the last", Packs.model(b)[0] & 7, 2);
        }
        for (int seed = 0; seed < 12; seed++) {
            packed("bits behind the codes count, " + seed, farOnes(seed));
        }
        for (int n = 0; n < 80; n++) {
            // The second block begins at another bit each time: what stored takes up to a byte's end counts.
            byte[] b = joined(random(2048, 0, 200, n), random(90 + n, 0, 256, n));
            packed("stored behind another block " + n, b);
            packed("stored or fixed behind another block " + n, joined(random(2048, 0, 200, n), random(28, 144, 112, n)));
        }
    }

    /** Bytes that were found to give the last length that is told of the alphabet one bit. */
    private static byte[] fewKinds(long seed) {
        Random r = new Random(seed);
        int n = 40 + r.nextInt(900);
        int m = 2 + r.nextInt(7);
        int step = 1 + r.nextInt(3);
        byte[] b = new byte[n];
        for (int k = 0; k < n; k++) {
            if (k > 10 && r.nextInt(20) == 0) {
                int d = 1 + r.nextInt(k);
                int size = 3 + r.nextInt(10);
                for (int i = 0; i < size && k < n; i++) {
                    b[k] = b[k - d];
                    k++;
                }
                k--;
            } else {
                b[k] = (byte) (r.nextInt(m) * step);
            }
        }
        return b;
    }

    /** Bytes that are better stored only because of the bits that tell how far ahead their rows are. */
    private static byte[] farOnes(long seed) {
        Random r = new Random(seed);
        int n = 1500 + r.nextInt(700);
        int every = 4 + r.nextInt(30);
        byte[] b = new byte[n];
        for (int k = 0; k < n; k++) {
            if (k > 1000 && r.nextInt(every) == 0 && k + 3 < n) {
                int d = 600 + r.nextInt(k - 600);
                for (int i = 0; i < 3; i++) {
                    b[k] = b[k - d];
                    k++;
                }
                k--;
            } else {
                b[k] = (byte) r.nextInt(256);
            }
        }
        return b;
    }

    /** Bytes whose parts come about as often as the fixed codes are made for. */
    private static byte[] likeFixed(long seed) {
        int[] sizes = {3, 4, 5, 6, 7, 8, 9, 10, 11, 13, 15, 17, 19, 23, 27, 31, 35, 43, 51, 59, 67, 83, 99, 115};
        Random r = new Random(seed);
        byte[] b = new byte[24000];
        int n = 0;
        while (n < b.length) {
            if (n < 300 || r.nextInt(1000) < 800) {
                b[n] = (byte) (r.nextInt(400) < 288 ? r.nextInt(144) : 144 + r.nextInt(112));
                n++;
                continue;
            }
            int d = n + 1;
            while (d > n || d > 8192) {
                int c = r.nextInt(26);
                d = c < 4 ? c + 1 : 1 + (2 + c % 2 << c / 2 - 1) + r.nextInt(1 << c / 2 - 1);
            }
            int code = r.nextInt(23);
            int size = sizes[code] + r.nextInt(sizes[code + 1] - sizes[code]);
            for (int k = 0; k < size && n < b.length; k++) {
                b[n] = b[n - d];
                n++;
            }
        }
        return b;
    }

    /** Bytes that were found to take as many bits when fixed as when dynamic. */
    private static byte[] fixedOrDynamic(long seed) {
        Random r = new Random(seed);
        int n = 60 + r.nextInt(120);
        int m = 4 + r.nextInt(20);
        int base = r.nextInt(200);
        byte[] b = new byte[n];
        for (int k = 0; k < n; k++) {
            b[k] = (byte) (base + r.nextInt(m) * (1 + r.nextInt(2)));
        }
        return b;
    }

    /** Bytes that were found to take as many bits when stored as when dynamic. */
    private static byte[] storedOrDynamic(long seed) {
        Random r = new Random(seed);
        int n = 150 + r.nextInt(500);
        int m = 100 + r.nextInt(100);
        byte[] b = new byte[n];
        for (int k = 0; k < n; k++) {
            b[k] = (byte) (r.nextInt(m) + 40);
        }
        return b;
    }

    private static void rowsOfNoughts() throws DataFormatException {
        for (int gap : new int[] {1, 2, 3, 4, 9, 10, 11, 12, 20, 100, 136, 137, 138, 139, 140, 148, 149, 150, 200, 240}) {
            for (int first : new int[] {0, 1, 3, 10, 11}) {
                Random r = new Random(gap);
                byte[] b = new byte[700];
                for (int k = 0; k < b.length; k++) {
                    int which = r.nextInt(9);
                    b[k] = (byte) (which < 3 ? first : which < 7 ? first + gap + 1 : first + gap + 2 + r.nextInt(2));
                }
                packed(gap + " noughts behind " + first, b);
            }
        }
    }

    private static void rowsOfLikeLengths() throws DataFormatException {
        for (int kinds = 2; kinds < 40; kinds++) {
            packed(kinds + " kinds", random(900, 60, kinds, kinds));
        }
        for (int kinds : new int[] {64, 128, 140, 200, 255}) {
            packed(kinds + " kinds", random(2000, 0, kinds, kinds));
        }
    }

    private static void limitsOfLengths() throws DataFormatException {
        int[] often = {1, 1, 2, 3, 5, 8, 13, 21, 34, 55, 89, 144, 233, 377, 610};
        byte[] b = new byte[2048];
        int at = 0;
        for (int k = 0; k < often.length; k++) {
            for (int i = 0; i < often[k] && at < b.length; i++) {
                b[at] = (byte) (k * 2);
                at++;
            }
        }
        b = Arrays.copyOf(b, at);
        Random r = new Random(2);
        for (int k = at - 1; k > 0; k--) {
            int j = r.nextInt(k + 1);
            byte other = b[k];
            b[k] = b[j];
            b[j] = other;
        }
        packed("lengths as long as can be", b);
        for (int seed = 0; seed < 120; seed++) {
            packed("lengths of the alphabet " + seed, skewed(seed));
        }
    }

    /** Bytes that come more and more rarely: among these are some whose alphabet would take more than 7 bits. */
    private static byte[] skewed(long seed) {
        Random r = new Random(seed);
        int n = 500 + r.nextInt(1600);
        byte[] b = new byte[n];
        double p = 0.02 + r.nextDouble() * 0.3;
        int step = 1 + r.nextInt(5);
        for (int k = 0; k < n; k++) {
            int v = 0;
            while (v < 250 && r.nextDouble() > p) {
                v += 1 + r.nextInt(step);
            }
            b[k] = (byte) v;
        }
        return b;
    }

    private static void distanceCodes() throws DataFormatException {
        packed("no distances", random(600, 0, 20, 1));
        byte[] row = different(64);
        packed("one distance", joined(row, row, row, row, row, row));
        packed("distance 1 alone", joined(new byte[900], different(100)));
        byte[][] all = new byte[60][];
        for (int k = 0; k < all.length; k++) {
            all[k] = k % 3 == 0 ? Arrays.copyOf(row, 10 + k) : random(20 + 7 * k, 100, 60, k);
        }
        packed("many distances", joined(all));
        packed("distances up to 8192", joined(random(3000, 97, 4, 1), random(3000, 107, 4, 2), random(2500, 97, 4, 1)));
    }

    private static void mostBytes() throws DataFormatException {
        byte[] b = random(24000, 0, 256, 7);
        BookWorks x = new BookWorks();
        Check.tape(x, Arrays.copyOf(b, 23940));
        Check.same("23940 bytes, stored in 12 blocks", x.pack(), 24000);
        Check.isTrue("as the model packs them", Arrays.equals(Check.output(x), Packs.model(Arrays.copyOf(b, 23940))));
        Check.tape(x, Arrays.copyOf(b, 23941));
        boolean thrown = false;
        try {
            x.pack();
        } catch (IllegalStateException e) {
            thrown = true;
        }
        Check.isTrue("23941 bytes are too many", thrown);
        Check.same("the output stays", x.about(2), 24000);
        Check.tapeIs("the tape stays", x, Arrays.copyOf(b, 23941));
        Check.same("fault(0) is not of pack()", x.fault(0), 0);
        byte[] twice = joined(Arrays.copyOf(b, 12000), Arrays.copyOf(b, 12000));
        Check.tape(x, twice);
        thrown = false;
        try {
            x.pack();
        } catch (IllegalStateException e) {
            thrown = true;
        }
        Check.isTrue("12000 bytes ahead is too far", thrown);
        byte[] near = joined(Arrays.copyOf(b, 8192), Arrays.copyOf(b, 8192), Arrays.copyOf(b, 7616));
        Check.tape(x, near);
        Check.isTrue("8192 bytes ahead is near enough", x.pack() < 9000);
        Check.isTrue("as the model packs it", Arrays.equals(Check.output(x), Packs.model(near)));
        packed("24000 alike", new byte[24000]);
        packed("24000 of two kinds", random(24000, 97, 2, 1));
    }
}
