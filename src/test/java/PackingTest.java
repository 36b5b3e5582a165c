import java.util.ArrayList;
import java.util.Arrays;
import java.util.List;
import java.util.Random;
import java.util.zip.DataFormatException;
import java.util.zip.Deflater;
import java.util.zip.Inflater;

/** Promises 21, 22 and 25: pack, unpack and its faults. */
public final class PackingTest {
    private static final int[] SIZES = {3, 4, 5, 6, 7, 8, 9, 10, 11, 13, 15, 17, 19, 23, 27, 31, 35, 43, 51, 59,
        67, 83, 99, 115, 131, 163, 195, 227, 258};
    private static final int[] SIZE_BITS = {0, 0, 0, 0, 0, 0, 0, 0, 1, 1, 1, 1, 2, 2, 2, 2, 3, 3, 3, 3,
        4, 4, 4, 4, 5, 5, 5, 5, 0};
    private static final int[] ORDER = {16, 17, 18, 0, 8, 7, 9, 6, 10, 5, 11, 4, 12, 3, 13, 2, 14, 1, 15};

    public static void main(String[] args) throws DataFormatException {
        packsAsTheDocumentTells();
        packsTooMuch();
        unpacksWhatOthersPacked();
        faults();
        Check.finish();
    }

    private static byte[] packed(byte[] b) {
        BookWorks x = new BookWorks();
        Check.tape(x, b);
        int n = x.pack();
        Check.same("pack()", n, x.about(2));
        return Check.output(x);
    }

    private static byte[][] samples() {
        Random r = new Random(4);
        byte[][] all = new byte[14][];
        all[0] = new byte[0];
        all[1] = Check.utf8("a");
        all[2] = Check.utf8("aaaa");
        all[3] = Check.utf8("abcabcabcabcabcbc abcdbcde xbcdef abcdef");
        all[4] = new byte[3000];
        for (int k = 5; k < all.length; k++) {
            int[] lengths = {200, 900, 2047, 2049, 5000, 300, 2500, 4200, 9000};
            all[k] = new byte[lengths[k - 5]];
            for (int i = 0; i < all[k].length; i++) {
                all[k][i] = (byte) (k % 3 == 0 ? r.nextInt(256) : k % 3 == 1 ? Math.abs(r.nextGaussian()) * 9 : 'a' + r.nextInt(3));
            }
        }
        System.arraycopy(all[13], 0, all[13], 8200, 400);
        return all;
    }

    private static void packsAsTheDocumentTells() throws DataFormatException {
        byte[][] all = samples();
        for (int k = 0; k < all.length; k++) {
            byte[] got = packed(all[k]);
            Check.isTrue("sample " + k + " as the model packs it", Arrays.equals(got, model(all[k])));
            Inflater inflater = new Inflater(true);
            inflater.setInput(got);
            byte[] back = new byte[all[k].length + 1];
            int n = inflater.inflate(back);
            Check.isTrue("sample " + k + " is finished", inflater.finished());
            Check.isTrue("sample " + k + " comes back", Arrays.equals(Arrays.copyOf(back, n), all[k]));
            inflater.end();
        }
    }

    private static void packsTooMuch() {
        Random r = new Random(7);
        byte[] b = new byte[24000];
        r.nextBytes(b);
        BookWorks x = new BookWorks();
        Check.tape(x, "abc");
        int n = x.pack();
        Check.tape(x, b);
        boolean thrown = false;
        try {
            x.pack();
        } catch (IllegalStateException e) {
            thrown = true;
        }
        Check.isTrue("24000 odd bytes can't be packed", thrown);
        Check.same("the output stays", x.about(2), n);
        Check.same("and the tape", x.about(0), 24000);
        x.cut(23940);
        Check.same("12 blocks of 5 bytes more", x.pack(), 24000);
        x.take();
        Check.same("unpacked", x.unpack(), 23940);
        x.cut(0);
        for (int k = 0; k < 1200; k++) {
            x.end(20);
        }
        Check.isTrue("noughts become few", x.pack() < 60);
    }

    private static void unpacksWhatOthersPacked() {
        byte[][] all = samples();
        for (int level = 0; level < 10; level += 3) {
            for (int k = 0; k < all.length; k++) {
                Deflater deflater = new Deflater(level, true);
                deflater.setInput(all[k]);
                deflater.finish();
                byte[] b = new byte[20000];
                int n = deflater.deflate(b);
                deflater.end();
                BookWorks x = new BookWorks();
                Check.tape(x, Arrays.copyOf(b, n + 2));
                Check.same("unpack() of level " + level, x.unpack(), all[k].length);
                Check.isTrue("sample " + k + " of level " + level, Arrays.equals(Check.output(x), all[k]));
                Check.same("fault(0)", x.fault(0), 0);
                Check.same("fault(1)", x.fault(1), -1);
                Check.same("fault(2)", x.fault(2), -1);
            }
        }
    }

    private static String unpacked(byte[] b) {
        BookWorks x = new BookWorks();
        Check.tape(x, "kept");
        x.pack();
        int before = x.about(2);
        Check.tape(x, b);
        try {
            return "" + x.unpack();
        } catch (IllegalArgumentException e) {
            Check.same("the output stays", x.about(2), before);
            Check.same("no file", x.fault(1), -1);
            Check.same("another what", x.fault(3), -1);
            return x.fault(0) + " at " + x.fault(2);
        }
    }

    /** Bytes of rows of bits, each told lowest first. */
    private static byte[] bits(String... rows) {
        String all = String.join("", rows).replace(" ", "");
        byte[] b = new byte[(all.length() + 7) / 8];
        for (int k = 0; k < all.length(); k++) {
            b[k / 8] |= (all.charAt(k) - '0') << k % 8;
        }
        return b;
    }

    private static String number(int value, int n) {
        StringBuilder s = new StringBuilder();
        for (int k = 0; k < n; k++) {
            s.append(value >> k & 1);
        }
        return s.toString();
    }

    /** A dynamic block's beginning, with lengths of the alphabet's codes as they are told. */
    private static String dynamic(int literals, int distances, int... lengths) {
        StringBuilder s = new StringBuilder("1 01" + number(literals - 257, 5) + number(distances - 1, 5)
            + number(lengths.length - 4, 4));
        for (int length : lengths) {
            s.append(number(length, 3));
        }
        return s.toString();
    }

    private static void faults() {
        Check.same("nothing", unpacked(new byte[0]), "1 at 0");
        Check.same("a block of none", unpacked(Check.bytes(3, 0)), "0");
        Check.same("that ends too early", unpacked(Check.bytes(3)), "1 at 1");
        Check.same("kind 3", unpacked(Check.bytes(7, 0)), "2 at 1");
        Check.same("kind 3 behind another", unpacked(bits("0 10 0000000", "0 11")), "2 at 2");
        Check.same("stored", unpacked(Check.bytes(1, 2, 0, 253, 255, 65, 66, 9)), "2");
        Check.same("stored, too early", unpacked(Check.bytes(1, 2, 0, 253, 255, 65)), "1 at 6");
        Check.same("stored, its lengths too early", unpacked(Check.bytes(1, 2, 0, 253)), "1 at 4");
        Check.same("stored, lengths that don't agree", unpacked(Check.bytes(1, 2, 0, 253, 254, 65, 66)), "3 at 5");
        Check.same("287 literals", unpacked(bits(dynamic(287, 1, 0, 0, 0, 0))), "4 at 3");
        Check.same("31 distances", unpacked(bits(dynamic(257, 31, 0, 0, 0, 0))), "4 at 3");
        Check.same("287 literals, told too early", unpacked(Arrays.copyOf(bits(dynamic(287, 1, 0, 0, 0, 0)), 2)), "1 at 2");
        Check.same("no code of the 19", unpacked(bits(dynamic(257, 1, 0, 0, 0, 0))), "5 at 4");
        Check.same("one code of the 19", unpacked(bits(dynamic(257, 1, 0, 0, 1, 0))), "5 at 4");
        Check.same("too many codes of the 19", unpacked(bits(dynamic(257, 1, 1, 1, 1, 0))), "5 at 4");
        Check.same("a repetition without one ahead", unpacked(bits(dynamic(257, 1, 1, 0, 0, 1), "1")), "6 at 4");
        Check.same("a repetition beyond the row",
            unpacked(bits(dynamic(257, 1, 0, 0, 1, 1), "1" + number(127, 7), "1" + number(127, 7))), "6 at 6");
        // 18 has length 1 (code 0), 0 and 1 have length 2 (codes 10 and 11).
        int[] three = {0, 0, 1, 2, 0, 0, 0, 0, 0, 0, 0, 0, 0, 0, 0, 0, 0, 2};
        String noughts256 = "0" + number(127, 7) + "0" + number(107, 7);
        Check.same("literals with one code", unpacked(bits(dynamic(257, 1, three), noughts256, "11", "10")), "5 at 12");
        String from97 = "0" + number(86, 7) + "11" + "0" + number(127, 7) + "0" + number(9, 7);
        Check.same("none for 256", unpacked(bits(dynamic(258, 1, three),
            "0" + number(86, 7) + "11" + "11" + "0" + number(127, 7) + "0" + number(10, 7), "10")), "5 at 13");
        String aAndEnd = dynamic(257, 1, three) + from97 + "11";
        Check.same("a and the end, no distances", unpacked(bits(aAndEnd + "10", "0", "0", "1")), "2");
        Check.same("a distance code that is one", unpacked(bits(aAndEnd + "11", "0", "0", "1")), "2");
        Check.same("literal 286", unpacked(bits("1 10", "11000110")), "7 at 2");
        Check.same("distance 30", unpacked(bits("1 10", "10010001", "0000001", "11110")), "7 at 3");
        Check.same("a distance beyond", unpacked(bits("1 10", "10010001", "0000001", "00001")), "8 at 3");
        Check.same("a distance within", unpacked(bits("1 10", "10010001", "0000001", "00000", "0000000")), "4");
        byte[] many = new byte[24001];
        Deflater deflater = new Deflater(9, true);
        deflater.setInput(many);
        deflater.finish();
        byte[] b = new byte[1000];
        int n = deflater.deflate(b);
        Check.same("24001 bytes", unpacked(Arrays.copyOf(b, n)).substring(0, 4), "9 at");
        deflater.end();
    }

    // A model of PACKING, as plain as the document's words.

    private static int[] match(byte[] b, int at) {
        int best = 2;
        int gap = 0;
        for (int d = 1; d <= 8192 && d <= at && best < 258; d++) {
            int n = 0;
            while (n < 258 && at + n < b.length && b[at + n] == b[at + n - d]) {
                n++;
            }
            if (n > best) {
                best = n;
                gap = d;
            }
        }
        return new int[] {gap == 0 ? 0 : best, gap};
    }

    private static int[] lengths(int[] often, int limit) {
        List<int[]> s = new ArrayList<>();
        for (int k = 0; k < often.length; k++) {
            if (often[k] > 0) {
                s.add(new int[] {often[k], k});
            }
        }
        int[] lengths = new int[often.length];
        if (s.size() == 1) {
            lengths[s.get(0)[1]] = 1;
        }
        if (s.size() < 2) {
            return lengths;
        }
        s.sort((a, b) -> a[0] != b[0] ? Integer.compare(a[0], b[0]) : Integer.compare(a[1], b[1]));
        List<int[]> r = s;
        for (int turn = 1; turn < limit; turn++) {
            List<int[]> merged = new ArrayList<>(s);
            for (int k = 0; k + 1 < r.size(); k += 2) {
                int[] a = r.get(k);
                int[] b = r.get(k + 1);
                int[] pair = Arrays.copyOf(a, a.length + b.length - 1);
                System.arraycopy(b, 1, pair, a.length, b.length - 1);
                pair[0] = a[0] + b[0];
                int at = merged.size();
                while (at > 0 && merged.get(at - 1)[0] > pair[0]) {
                    at--;
                }
                merged.add(at, pair);
            }
            r = merged;
        }
        for (int k = 0; k < 2 * s.size() - 2; k++) {
            for (int j = 1; j < r.get(k).length; j++) {
                lengths[r.get(k)[j]]++;
            }
        }
        return lengths;
    }

    private static String[] codes(int[] lengths) {
        String[] codes = new String[lengths.length];
        int code = 0;
        for (int n = 1; n < 16; n++) {
            for (int k = 0; k < lengths.length; k++) {
                if (lengths[k] == n) {
                    codes[k] = new StringBuilder(number(code++, n)).reverse().toString();
                }
            }
            code *= 2;
        }
        return codes;
    }

    private static int gapBase(int k) {
        return k < 4 ? k + 1 : 1 + (2 + k % 2 << k / 2 - 1);
    }

    private static int gapCode(int gap) {
        int k = 29;
        while (gapBase(k) > gap) {
            k--;
        }
        return k;
    }

    private static int sizeCode(int size) {
        int k = 28;
        while (SIZES[k] > size) {
            k--;
        }
        return k;
    }

    private static String body(List<int[]> parts, int[] literals, int[] distances) {
        String[] codes = codes(literals);
        String[] gaps = codes(distances);
        StringBuilder s = new StringBuilder();
        for (int[] part : parts) {
            if (part[1] == 0) {
                s.append(codes[part[0]]);
                continue;
            }
            int k = sizeCode(part[0]);
            int g = gapCode(part[1]);
            s.append(codes[257 + k]).append(number(part[0] - SIZES[k], SIZE_BITS[k]));
            s.append(gaps[g]).append(number(part[1] - gapBase(g), g < 4 ? 0 : g / 2 - 1));
        }
        return s.append(codes[256]).toString();
    }

    private static String dynamicBlock(List<int[]> parts) {
        int[] often = new int[286];
        int[] gaps = new int[30];
        often[256] = 1;
        for (int[] part : parts) {
            often[part[1] == 0 ? part[0] : 257 + sizeCode(part[0])]++;
            if (part[1] > 0) {
                gaps[gapCode(part[1])]++;
            }
        }
        int[] literals = lengths(often, 15);
        int[] distances = lengths(gaps, 15);
        if (Arrays.stream(distances).sum() == 0) {
            distances[0] = 1;
        }
        int a = 286;
        while (a > 257 && literals[a - 1] == 0) {
            a--;
        }
        int b = 30;
        while (b > 1 && distances[b - 1] == 0) {
            b--;
        }
        int[] row = Arrays.copyOf(literals, a + b);
        System.arraycopy(distances, 0, row, a, b);
        List<int[]> told = new ArrayList<>();
        int[] used = new int[19];
        for (int at = 0; at < row.length;) {
            int zeros = 0;
            while (at + zeros < row.length && zeros < 138 && row[at + zeros] == 0) {
                zeros++;
            }
            int same = 0;
            while (at > 0 && at + same < row.length && same < 6 && row[at + same] == row[at - 1]) {
                same++;
            }
            int[] one = zeros > 10 ? new int[] {18, zeros - 11, 7, zeros} : zeros > 2 ? new int[] {17, zeros - 3, 3, zeros}
                : same > 2 ? new int[] {16, same - 3, 2, same} : new int[] {row[at], 0, 0, 1};
            told.add(one);
            used[one[0]]++;
            at += one[3];
        }
        int[] alphabet = lengths(used, 7);
        String[] codes = codes(alphabet);
        int c = 19;
        while (c > 4 && alphabet[ORDER[c - 1]] == 0) {
            c--;
        }
        StringBuilder s = new StringBuilder("01" + number(a - 257, 5) + number(b - 1, 5) + number(c - 4, 4));
        for (int k = 0; k < c; k++) {
            s.append(number(alphabet[ORDER[k]], 3));
        }
        for (int[] one : told) {
            s.append(codes[one[0]]).append(number(one[1], one[2]));
        }
        return s.append(body(parts, literals, distances)).toString();
    }

    private static byte[] model(byte[] b) {
        List<int[]> parts = new ArrayList<>();
        for (int at = 0; at < b.length;) {
            int[] here = match(b, at);
            boolean taken = here[0] > 0 && match(b, at + 1)[0] <= here[0];
            parts.add(taken ? here : new int[] {b[at] & 255, 0});
            at += taken ? here[0] : 1;
        }
        int[] fixed = new int[288];
        for (int k = 0; k < 288; k++) {
            fixed[k] = k < 144 ? 8 : k < 256 ? 9 : k < 280 ? 7 : 8;
        }
        int[] five = new int[32];
        Arrays.fill(five, 5);
        StringBuilder all = new StringBuilder();
        int at = 0;
        for (int k = 0; k == 0 || k < parts.size(); k += 2048) {
            List<int[]> block = parts.subList(k, Math.min(parts.size(), k + 2048));
            all.append(k + 2048 >= parts.size() ? '1' : '0');
            int n = 0;
            for (int[] part : block) {
                n += part[1] == 0 ? 1 : part[0];
            }
            StringBuilder stored = new StringBuilder("00");
            while ((all.length() + stored.length()) % 8 != 0) {
                stored.append('0');
            }
            stored.append(number(n, 16)).append(number(~n, 16));
            for (int i = 0; i < n; i++) {
                stored.append(number(b[at + i], 8));
            }
            at += n;
            String best = stored.toString();
            String second = "10" + body(block, fixed, five);
            best = second.length() < best.length() ? second : best;
            String third = dynamicBlock(block);
            all.append(third.length() < best.length() ? third : best);
        }
        return bits(all.toString());
    }
}
