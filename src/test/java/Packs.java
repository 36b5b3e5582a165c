import java.util.ArrayList;
import java.util.Arrays;
import java.util.List;

/** What the tests of packing share: rows of bits, and a model of PACKING as plain as the document's words. */
final class Packs {
    private static final int[] SIZES = {3, 4, 5, 6, 7, 8, 9, 10, 11, 13, 15, 17, 19, 23, 27, 31, 35, 43, 51, 59,
        67, 83, 99, 115, 131, 163, 195, 227, 258};
    private static final int[] SIZE_BITS = {0, 0, 0, 0, 0, 0, 0, 0, 1, 1, 1, 1, 2, 2, 2, 2, 3, 3, 3, 3,
        4, 4, 4, 4, 5, 5, 5, 5, 0};
    private static final int[] ORDER = {16, 17, 18, 0, 8, 7, 9, 6, 10, 5, 11, 4, 12, 3, 13, 2, 14, 1, 15};

    private Packs() {
    }

    /** Bytes of rows of bits, each told lowest first. */
    static byte[] bits(String... rows) {
        String all = String.join("", rows).replace(" ", "");
        byte[] b = new byte[(all.length() + 7) / 8];
        for (int k = 0; k < all.length(); k++) {
            b[k / 8] |= (all.charAt(k) - '0') << k % 8;
        }
        return b;
    }

    static String number(int value, int n) {
        StringBuilder s = new StringBuilder();
        for (int k = 0; k < n; k++) {
            s.append(value >> k & 1);
        }
        return s.toString();
    }

    /** A dynamic block's beginning, with lengths of the alphabet's codes as they are told. */
    static String dynamic(int literals, int distances, int... lengths) {
        StringBuilder s = new StringBuilder("1 01" + number(literals - 257, 5) + number(distances - 1, 5)
            + number(lengths.length - 4, 4));
        for (int length : lengths) {
            s.append(number(length, 3));
        }
        return s.toString();
    }

    private static int[] match(byte[] b, int at) {
        int best = 2;
        int gap = 0;
        for (int d = 1; d <= 8192 && d <= at && best < 258; d++) {
            int n = 0;
            while (n < 258 && at + n < b.length && b[at + n] == b[at + n - d]) {
                n++;
            }
            if (n > best) {
                best = n;
                gap = d;
            }
        }
        return new int[] {gap == 0 ? 0 : best, gap};
    }

    private static int[] lengths(int[] often, int limit) {
        List<int[]> s = new ArrayList<>();
        for (int k = 0; k < often.length; k++) {
            if (often[k] > 0) {
                s.add(new int[] {often[k], k});
            }
        }
        int[] lengths = new int[often.length];
        if (s.size() == 1) {
            lengths[s.get(0)[1]] = 1;
        }
        if (s.size() < 2) {
            return lengths;
        }
        s.sort((a, b) -> a[0] != b[0] ? Integer.compare(a[0], b[0]) : Integer.compare(a[1], b[1]));
        List<int[]> r = s;
        for (int turn = 1; turn < limit; turn++) {
            List<int[]> merged = new ArrayList<>(s);
            for (int k = 0; k + 1 < r.size(); k += 2) {
                int[] a = r.get(k);
                int[] b = r.get(k + 1);
                int[] pair = Arrays.copyOf(a, a.length + b.length - 1);
                System.arraycopy(b, 1, pair, a.length, b.length - 1);
                pair[0] = a[0] + b[0];
                int at = merged.size();
                while (at > 0 && merged.get(at - 1)[0] > pair[0]) {
                    at--;
                }
                merged.add(at, pair);
            }
            r = merged;
        }
        for (int k = 0; k < 2 * s.size() - 2; k++) {
            for (int j = 1; j < r.get(k).length; j++) {
                lengths[r.get(k)[j]]++;
            }
        }
        return lengths;
    }

    private static String[] codes(int[] lengths) {
        String[] codes = new String[lengths.length];
        int code = 0;
        for (int n = 1; n < 16; n++) {
            for (int k = 0; k < lengths.length; k++) {
                if (lengths[k] == n) {
                    codes[k] = new StringBuilder(number(code++, n)).reverse().toString();
                }
            }
            code *= 2;
        }
        return codes;
    }

    private static int gapBase(int k) {
        return k < 4 ? k + 1 : 1 + (2 + k % 2 << k / 2 - 1);
    }

    private static int gapCode(int gap) {
        int k = 29;
        while (gapBase(k) > gap) {
            k--;
        }
        return k;
    }

    private static int sizeCode(int size) {
        int k = 28;
        while (SIZES[k] > size) {
            k--;
        }
        return k;
    }

    private static String body(List<int[]> parts, int[] literals, int[] distances) {
        String[] codes = codes(literals);
        String[] gaps = codes(distances);
        StringBuilder s = new StringBuilder();
        for (int[] part : parts) {
            if (part[1] == 0) {
                s.append(codes[part[0]]);
                continue;
            }
            int k = sizeCode(part[0]);
            int g = gapCode(part[1]);
            s.append(codes[257 + k]).append(number(part[0] - SIZES[k], SIZE_BITS[k]));
            s.append(gaps[g]).append(number(part[1] - gapBase(g), g < 4 ? 0 : g / 2 - 1));
        }
        return s.append(codes[256]).toString();
    }

    private static String dynamicBlock(List<int[]> parts) {
        int[] often = new int[286];
        int[] gaps = new int[30];
        often[256] = 1;
        for (int[] part : parts) {
            often[part[1] == 0 ? part[0] : 257 + sizeCode(part[0])]++;
            if (part[1] > 0) {
                gaps[gapCode(part[1])]++;
            }
        }
        int[] literals = lengths(often, 15);
        int[] distances = lengths(gaps, 15);
        if (Arrays.stream(distances).sum() == 0) {
            distances[0] = 1;
        }
        int a = 286;
        while (a > 257 && literals[a - 1] == 0) {
            a--;
        }
        int b = 30;
        while (b > 1 && distances[b - 1] == 0) {
            b--;
        }
        int[] row = Arrays.copyOf(literals, a + b);
        System.arraycopy(distances, 0, row, a, b);
        List<int[]> told = new ArrayList<>();
        int[] used = new int[19];
        for (int at = 0; at < row.length;) {
            int zeros = 0;
            while (at + zeros < row.length && zeros < 138 && row[at + zeros] == 0) {
                zeros++;
            }
            int same = 0;
            while (at > 0 && at + same < row.length && same < 6 && row[at + same] == row[at - 1]) {
                same++;
            }
            int[] one = zeros > 10 ? new int[] {18, zeros - 11, 7, zeros} : zeros > 2 ? new int[] {17, zeros - 3, 3, zeros}
                : same > 2 ? new int[] {16, same - 3, 2, same} : new int[] {row[at], 0, 0, 1};
            told.add(one);
            used[one[0]]++;
            at += one[3];
        }
        int[] alphabet = lengths(used, 7);
        String[] codes = codes(alphabet);
        int c = 19;
        while (c > 4 && alphabet[ORDER[c - 1]] == 0) {
            c--;
        }
        StringBuilder s = new StringBuilder("01" + number(a - 257, 5) + number(b - 1, 5) + number(c - 4, 4));
        for (int k = 0; k < c; k++) {
            s.append(number(alphabet[ORDER[k]], 3));
        }
        for (int[] one : told) {
            s.append(codes[one[0]]).append(number(one[1], one[2]));
        }
        return s.append(body(parts, literals, distances)).toString();
    }

    static byte[] model(byte[] b) {
        List<int[]> parts = new ArrayList<>();
        for (int at = 0; at < b.length;) {
            int[] here = match(b, at);
            boolean taken = here[0] > 0 && match(b, at + 1)[0] <= here[0];
            parts.add(taken ? here : new int[] {b[at] & 255, 0});
            at += taken ? here[0] : 1;
        }
        int[] fixed = new int[288];
        for (int k = 0; k < 288; k++) {
            fixed[k] = k < 144 ? 8 : k < 256 ? 9 : k < 280 ? 7 : 8;
        }
        int[] five = new int[32];
        Arrays.fill(five, 5);
        StringBuilder all = new StringBuilder();
        int at = 0;
        for (int k = 0; k == 0 || k < parts.size(); k += 2048) {
            List<int[]> block = parts.subList(k, Math.min(parts.size(), k + 2048));
            all.append(k + 2048 >= parts.size() ? '1' : '0');
            int n = 0;
            for (int[] part : block) {
                n += part[1] == 0 ? 1 : part[0];
            }
            StringBuilder stored = new StringBuilder("00");
            while ((all.length() + stored.length()) % 8 != 0) {
                stored.append('0');
            }
            stored.append(number(n, 16)).append(number(~n, 16));
            for (int i = 0; i < n; i++) {
                stored.append(number(b[at + i], 8));
            }
            at += n;
            String best = stored.toString();
            String second = "10" + body(block, fixed, five);
            best = second.length() < best.length() ? second : best;
            String third = dynamicBlock(block);
            all.append(third.length() < best.length() ? third : best);
        }
        return bits(all.toString());
    }
}
