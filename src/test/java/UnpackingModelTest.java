import java.io.ByteArrayOutputStream;
import java.util.Arrays;
import java.util.HashMap;
import java.util.Map;
import java.util.Random;
import java.util.zip.Deflater;

/** Promise 22 on very many rows of bytes, whole and broken, each unpacked by a plain model as well. */
public final class UnpackingModelTest {
    private static final int[] ORDER = {16, 17, 18, 0, 8, 7, 9, 6, 10, 5, 11, 4, 12, 3, 13, 2, 14, 1, 15};
    private static final int[] SIZES = {3, 4, 5, 6, 7, 8, 9, 10, 11, 13, 15, 17, 19, 23, 27, 31, 35, 43, 51, 59, 67, 83, 99, 115, 131,
        163, 195, 227, 258};
    private static byte[] b;
    private static int bits;
    private static ByteArrayOutputStream out;

    /** A fault of UNPACKING. */
    private static final class Fault extends RuntimeException {
        private static final long serialVersionUID = 1;
        private final int number;

        Fault(int number) {
            super("fault", null, false, false);
            this.number = number;
        }
    }

    public static void main(String[] args) {
        int[] met = new int[10];
        for (int run = 0; run < 12000; run++) {
            Random r = new Random(run);
            byte[] bytes = bytes(r);
            String due = unpacked(bytes);
            met[due.contains(" at ") ? due.charAt(0) - '0' : 0]++;
            BookWorks x = new BookWorks();
            Check.tape(x, bytes);
            String got;
            try {
                got = x.unpack() + " " + Arrays.hashCode(Check.output(x));
            } catch (IllegalArgumentException e) {
                got = x.fault(0) + " at " + x.fault(2);
            }
            Check.same("unpack() of " + Arrays.toString(bytes), got, due);
        }
        for (int k = 0; k < met.length; k++) {
            Check.isTrue("fault " + k + " was met", met[k] > 0);
        }
        Check.finish();
    }

    private static byte[] bytes(Random r) {
        byte[] plain = new byte[r.nextInt(9) == 0 ? 23900 + r.nextInt(200) : r.nextInt(700)];
        int kinds = 1 + r.nextInt(r.nextInt(3) == 0 ? 256 : 5);
        for (int k = 0; k < plain.length; k++) {
            plain[k] = (byte) (plain.length > 700 ? k / 500 : r.nextInt(kinds));
        }
        byte[] packed;
        if (r.nextInt(3) == 0) {
            packed = plain.length > 700 ? new byte[] {3, 0} : Packs.model(plain);
        } else {
            Deflater deflater = new Deflater(r.nextInt(10), true);
            deflater.setStrategy(r.nextInt(3));
            deflater.setInput(plain);
            deflater.finish();
            byte[] all = new byte[40000];
            int n = 0;
            for (int turn = 0; turn < 9 && !deflater.finished(); turn++) {
                n += deflater.deflate(all, n, all.length - n);
            }
            packed = Arrays.copyOf(all, Math.min(n, 1200));
            deflater.end();
        }
        for (int k = r.nextInt(4); k > 0; k--) {
            int most = r.nextBoolean() ? packed.length : Math.min(packed.length, 12);
            packed[r.nextInt(most)] ^= 1 << r.nextInt(8);
        }
        if (r.nextInt(12) == 0) {
            packed[0] = (byte) (5 | r.nextInt(32) << 3);
        }
        return r.nextInt(5) == 0 ? Arrays.copyOf(packed, r.nextInt(packed.length + 1)) : packed;
    }

    private static String unpacked(byte[] bytes) {
        b = bytes;
        bits = 0;
        out = new ByteArrayOutputStream();
        try {
            boolean last = false;
            while (!last) {
                last = number(1) == 1;
                block(number(2));
            }
            return out.size() + " " + Arrays.hashCode(out.toByteArray());
        } catch (Fault e) {
            return e.number + " at " + (bits + 7) / 8;
        }
    }

    private static int number(int n) {
        int value = 0;
        for (int k = 0; k < n; k++) {
            if (bits / 8 >= b.length) {
                throw new Fault(1);
            }
            value |= (b[bits / 8] >> bits % 8 & 1) << k;
            bits++;
        }
        return value;
    }

    private static void put(int value) {
        if (out.size() == 24000) {
            throw new Fault(9);
        }
        out.write(value);
    }

    private static void block(int kind) {
        if (kind == 3) {
            throw new Fault(2);
        }
        if (kind == 0) {
            bits = (bits + 7) / 8 * 8;
            int n = number(16);
            if (number(16) != (n ^ 65535)) {
                throw new Fault(3);
            }
            for (int k = 0; k < n; k++) {
                put(number(8));
            }
            return;
        }
        int[] literals = new int[288];
        int[] distances = new int[32];
        if (kind == 1) {
            for (int k = 0; k < 288; k++) {
                literals[k] = k < 144 ? 8 : k < 256 ? 9 : k < 280 ? 7 : 8;
            }
            Arrays.fill(distances, 5);
        } else {
            int[] row = lengths();
            literals = Arrays.copyOf(row, row[row.length - 1]);
            distances = Arrays.copyOfRange(row, row[row.length - 1], row.length - 1);
        }
        parts(codes(literals), codes(distances));
    }

    /** The row of lengths, and behind it how many are of literals. */
    private static int[] lengths() {
        int a = number(5) + 257;
        int d = number(5) + 1;
        int c = number(4) + 4;
        if (a > 286 || d > 30) {
            throw new Fault(4);
        }
        int[] alphabet = new int[19];
        for (int k = 0; k < c; k++) {
            alphabet[ORDER[k]] = number(3);
        }
        if (room(alphabet) != 0) {
            throw new Fault(5);
        }
        Map<String, Integer> codes = codes(alphabet);
        int[] row = new int[a + d + 1];
        for (int k = 0; k < a + d;) {
            int symbol = symbol(codes);
            if (symbol == 16 && k == 0) {
                throw new Fault(6);
            }
            int n = symbol < 16 ? 1 : symbol == 16 ? 3 + number(2) : symbol == 17 ? 3 + number(3) : 11 + number(7);
            if (k + n > a + d) {
                throw new Fault(6);
            }
            Arrays.fill(row, k, k + n, symbol < 16 ? symbol : symbol == 16 ? row[k - 1] : 0);
            k += n;
        }
        int[] far = Arrays.copyOfRange(row, a, a + d);
        int[] used = Arrays.stream(far).filter(n -> n > 0).toArray();
        boolean few = used.length == 0 || used.length == 1 && used[0] == 1;
        if (room(Arrays.copyOf(row, a)) != 0 || row[256] == 0 || room(far) != 0 && !few) {
            throw new Fault(5);
        }
        row[a + d] = a;
        return row;
    }

    /** How much of all codes of 15 bits is left. */
    private static int room(int[] lengths) {
        int left = 1 << 15;
        for (int n : lengths) {
            left -= n == 0 ? 0 : 1 << 15 - n;
        }
        return left;
    }

    private static Map<String, Integer> codes(int[] lengths) {
        Map<String, Integer> codes = new HashMap<>();
        int code = 0;
        for (int n = 1; n < 16; n++) {
            for (int k = 0; k < lengths.length; k++) {
                if (lengths[k] == n) {
                    StringBuilder s = new StringBuilder(Integer.toBinaryString(code | 1 << 20));
                    codes.put(s.substring(s.length() - n), k);
                    code++;
                }
            }
            code *= 2;
        }
        return codes;
    }

    private static int symbol(Map<String, Integer> codes) {
        StringBuilder s = new StringBuilder();
        while (s.length() < 15) {
            s.append(number(1));
            Integer symbol = codes.get(s.toString());
            if (symbol != null) {
                return symbol;
            }
        }
        throw new Fault(7);
    }

    private static void parts(Map<String, Integer> literals, Map<String, Integer> distances) {
        for (int symbol = symbol(literals); symbol != 256; symbol = symbol(literals)) {
            if (symbol < 256) {
                put(symbol);
                continue;
            }
            if (symbol > 285) {
                throw new Fault(7);
            }
            int k = symbol - 257;
            int size = SIZES[k] + number(k < 8 || k == 28 ? 0 : k / 4 - 1);
            int d = symbol(distances);
            if (d > 29) {
                throw new Fault(7);
            }
            int gap = d < 4 ? d + 1 : 1 + (2 + d % 2 << d / 2 - 1) + number(d / 2 - 1);
            if (gap > out.size()) {
                throw new Fault(8);
            }
            byte[] before = out.toByteArray();
            byte[] more = Arrays.copyOf(before, before.length + size);
            for (int i = before.length; i < more.length; i++) {
                more[i] = more[i - gap];
                put(more[i]);
            }
        }
    }
}
