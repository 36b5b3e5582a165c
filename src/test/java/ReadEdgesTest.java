import java.io.ByteArrayOutputStream;
import java.util.ArrayList;
import java.util.LinkedHashMap;
import java.util.List;
import java.util.Map;
import java.util.zip.CRC32;

/** READING AN ARCHIVE and promises 24 and 25 at their boundaries. */
public final class ReadEdgesTest {
    /** A file of an archive that may be told wrongly. */
    private static final class File {
        String name;
        byte[] bytes;
        byte[] packed;
        int method;
        int size;
        int crc;

        File(String name, byte[] bytes) {
            this.name = name;
            this.bytes = bytes;
            packed = bytes;
            size = bytes.length;
            CRC32 sum = new CRC32();
            sum.update(bytes);
            crc = (int) sum.getValue();
        }

        void pack() {
            method = 8;
            packed = Packs.model(bytes);
        }
    }

    public static void main(String[] args) {
        numbersOfFiles();
        endsOfArchives();
        names();
        centralHeaders();
        localHeaders();
        mimetypes();
        sizes();
        packedFiles();
        sums();
        containers();
        packages();
        spines();
        folders();
        orderOfFaults();
        idsAndLinks();
        depthInSpines();
        orderOfFiles();
        whatIsKept();
        Check.finish();
    }

    private static byte[] archive(List<File> files) {
        ByteArrayOutputStream o = new ByteArrayOutputStream();
        ByteArrayOutputStream central = new ByteArrayOutputStream();
        for (File f : files) {
            ByteArrayOutputStream h = new ByteArrayOutputStream();
            for (int two : new int[] {20, 0, f.method, 0, 33}) {
                Check.two(h, two);
            }
            Check.four(h, f.crc);
            Check.four(h, f.packed.length);
            Check.four(h, f.size);
            Check.two(h, f.name.length());
            Check.two(h, 0);
            int at = o.size();
            o.writeBytes(Check.bytes(80, 75, 3, 4));
            o.writeBytes(h.toByteArray());
            o.writeBytes(Check.utf8(f.name));
            o.writeBytes(f.packed);
            central.writeBytes(Check.bytes(80, 75, 1, 2, 20, 0));
            central.writeBytes(h.toByteArray());
            central.writeBytes(new byte[10]);
            Check.four(central, at);
            central.writeBytes(Check.utf8(f.name));
        }
        int at = o.size();
        o.writeBytes(central.toByteArray());
        o.writeBytes(Check.bytes(80, 75, 5, 6, 0, 0, 0, 0));
        Check.two(o, files.size());
        Check.two(o, files.size());
        Check.four(o, central.size());
        Check.four(o, at);
        Check.two(o, 0);
        return o.toByteArray();
    }

    private static List<File> book(int documents) {
        String[] all = new String[documents];
        java.util.Arrays.fill(all, Check.html("<p>a</p>"));
        List<File> files = new ArrayList<>();
        for (Map.Entry<String, byte[]> e : Check.bookFiles(all).entrySet()) {
            files.add(new File(e.getKey(), e.getValue()));
        }
        return files;
    }

    private static void is(String what, byte[] archive, String due) {
        Check.same(what, Check.read(archive), due);
    }

    private static void is(String what, List<File> files, String due) {
        is(what, archive(files), due);
    }

    private static void numbersOfFiles() {
        for (int n : new int[] {1, 2, 29, 30}) {
            is(n + " files of the spine", book(n), "" + n);
        }
        is("31 files of the spine", book(31), "9 2 0");
        for (int n : new int[] {39, 40, 41}) {
            List<File> files = book(30);
            while (files.size() < n) {
                files.add(new File("x" + files.size(), new byte[0]));
            }
            byte[] b = archive(files);
            is(n + " files", b, n > 40 ? "1 -1 " + (b.length - 22) : "30");
        }
        is("no file", archive(new ArrayList<>()), "1 -1 0");
        List<File> one = new ArrayList<>(book(1).subList(0, 1));
        is("one file", one, "8 -1 0");
    }

    private static byte[] changed(byte[] b, int at, int value) {
        byte[] other = b.clone();
        other[at] = (byte) value;
        return other;
    }

    private static void endsOfArchives() {
        byte[] b = archive(book(1));
        int end = b.length - 22;
        for (int n = 0; n < 60; n++) {
            is("its first " + n, java.util.Arrays.copyOf(b, n), "1 -1 " + Math.max(0, n - 22));
        }
        is("a byte too few", java.util.Arrays.copyOf(b, b.length - 1), "1 -1 " + (end - 1));
        is("a byte too many", java.util.Arrays.copyOf(b, b.length + 1), "1 -1 " + (end + 1));
        for (int k = 0; k < 22; k++) {
            for (int bit = 0; bit < 8; bit++) {
                String got = Check.read(changed(b, end + k, b[end + k] ^ 1 << bit));
                Check.same("END's byte " + k + ", bit " + bit, got, "1 -1 " + end);
            }
        }
        // Both numbers changed alike: too few headers, or too many.
        byte[] fewer = changed(changed(b, end + 8, 3), end + 10, 3);
        int second = (b[end + 16] & 255 | (b[end + 17] & 255) << 8) + 46 + 8 + 46 + 22;
        is("three told, four there", fewer, "2 2 " + second);
        byte[] more = changed(changed(b, end + 8, 5), end + 10, 5);
        is("five told, four there", more, "2 4 " + end);
    }

    private static void names() {
        for (int n : new int[] {1, 59, 60, 61}) {
            List<File> files = book(1);
            files.add(new File("n".repeat(n), new byte[3]));
            byte[] b = archive(files);
            is("a name of " + n, b, n > 60 ? "2 4 " + (b.length - 22 - 46 - n) : "1");
        }
        for (int c = 0; c < 256; c++) {
            List<File> files = book(1);
            files.add(new File("nn", new byte[3]));
            byte[] b = archive(files);
            int end = b.length - 22;
            b[end - 1] = (byte) c;
            int local = end - 46 - 2 - 3;
            for (int k = 0; k < 4; k++) {
                local -= 46 + book(1).get(k).name.length();
            }
            b[local - 1] = (byte) c;
            is("a name with " + c, b, c >= 33 && c <= 126 ? "1" : "2 4 " + (end - 48));
        }
        List<File> files = book(1);
        files.add(new File("x", new byte[1]));
        files.add(new File("X", new byte[1]));
        files.add(new File("xx", new byte[1]));
        is("names that differ", files, "1");
        files.add(new File("x", new byte[1]));
        byte[] b = archive(files);
        is("a name twice", b, "2 7 " + (b.length - 22 - 47));
    }

    private static void centralHeaders() {
        byte[] b = archive(book(2));
        int end = b.length - 22;
        int central = b[end + 16] & 255 | (b[end + 17] & 255) << 8;
        int at = central;
        int[] nameSizes = {8, 22, 7, 6, 6};
        int[] fixed = {0, 1, 2, 3, 4, 5, 6, 7, 8, 9, 10, 11, 12, 13, 14, 15, 30, 31, 32, 33, 34, 35, 36, 37, 38, 39, 40, 41};
        for (int k = 0; k < 5; k++) {
            for (int p : fixed) {
                for (int bit = 0; bit < 8; bit++) {
                    byte[] other = changed(b, at + p, b[at + p] ^ 1 << bit);
                    String due = p == 10 && bit == 3 ? "3 " + k : "2 " + k + " " + at;
                    Check.same("byte " + p + ", bit " + bit + " of header " + k,
                        Check.read(other).substring(0, due.length()), due);
                }
            }
            is("a name of none in header " + k, changed(b, at + 28, 0), "2 " + k + " " + at);
            is("a name of 256 more in header " + k, changed(b, at + 29, 1), "2 " + k + " " + at);
            at += 46 + nameSizes[k];
        }
        int last = end - 46 - 6;
        is("the last one ends too early", changed(b, last + 28, 5), "2 4 " + last);
        is("the last one ends too late", changed(b, last + 28, 7), "2 4 " + last);
    }

    private static void localHeaders() {
        List<File> files = book(2);
        byte[] b = archive(files);
        int at = 0;
        for (int k = 0; k < 5; k++) {
            int size = 30 + files.get(k).name.length();
            for (int p = 0; p < size; p++) {
                is("byte " + p + " of local header " + k, changed(b, at + p, b[at + p] ^ 4), "3 " + k + " " + at);
            }
            at += size + files.get(k).bytes.length;
        }
        int end = b.length - 22;
        int central = at;
        int header = central;
        at = 0;
        for (int k = 0; k < 5; k++) {
            for (int p = 42; p < 46; p++) {
                is("where header " + k + " begins", changed(b, header + p, b[header + p] ^ 1), "3 " + k + " " + at);
            }
            // A packed size that is told longer or shorter in both headers.
            for (int by : new int[] {-1, 1}) {
                byte[] other = changed(b, header + 20, b[header + 20] + by);
                other[at + 18] += (byte) by;
                int next = at + 30 + files.get(k).name.length() + files.get(k).bytes.length + by;
                is("a packed size by " + by + " in " + k, other, k == 4 ? "3 4 " + at : "3 " + (k + 1) + " " + next);
            }
            byte[] huge = changed(changed(b, header + 23, 255), at + 21, 255);
            is("a packed size beyond all", huge, "3 " + k + " " + at);
            at += 30 + files.get(k).name.length() + files.get(k).bytes.length;
            header += 46 + files.get(k).name.length();
        }
        Check.same("all headers were met", header, end);
        // The last file has a central header, but its local one is not there.
        byte[] whole = archive(files);
        int last = 30 + files.get(4).name.length() + files.get(4).bytes.length;
        byte[] part = new byte[whole.length - last];
        System.arraycopy(whole, 0, part, 0, central - last);
        System.arraycopy(whole, central, part, central - last, whole.length - central);
        part[part.length - 6] = (byte) (central - last);
        part[part.length - 5] = (byte) (central - last >> 8);
        is("no local header of the last one", part, "3 4 " + (central - last));
    }

    private static void mimetypes() {
        String[] wrong = {"application/epub+zi", "application/epub+zipp", "application/epub zip", "Application/epub+zip", ""};
        for (String text : wrong) {
            List<File> files = book(1);
            files.set(0, new File("mimetype", Check.utf8(text)));
            is("mimetype " + text, files, "4 0 0");
        }
        List<File> files = book(1);
        files.set(0, new File("mimetypes", files.get(0).bytes));
        is("another name", files, "4 0 0");
        files.set(0, new File("mimetyp", files.get(0).bytes));
        is("a shorter name", files, "4 0 0");
        files = book(1);
        files.get(0).method = 8;
        is("packed", files, "4 0 0");
        files = book(1);
        files.add(1, files.remove(0));
        is("as the second file", files, "4 0 0");
        files = book(1);
        files.get(0).name = "Mimetype";
        is("another first letter", files, "4 0 0");
        files = book(1);
        files.add(new File("mimetype", new byte[0]));
        byte[] twice = archive(files);
        is("twice", twice, "2 4 " + (twice.length - 22 - 54));
        files = book(1);
        files.get(0).crc++;
        is("another CRC comes later", files, "7 0 0");
        files = book(1);
        files.get(0).size++;
        is("another size comes later", files, "5 0 0");
    }

    private static File noughts(String name, int n) {
        File f = new File(name, new byte[n]);
        f.method = 8;
        java.util.zip.Deflater deflater = new java.util.zip.Deflater(9, true);
        deflater.setInput(f.bytes);
        deflater.finish();
        byte[] b = new byte[400];
        f.packed = java.util.Arrays.copyOf(b, 0);
        int size = deflater.deflate(b);
        f.packed = java.util.Arrays.copyOf(b, size);
        deflater.end();
        return f;
    }

    private static int sizeOf(List<File> files) {
        int size = 0;
        for (File f : files) {
            size += f.size;
        }
        return size;
    }

    private static void sizes() {
        for (int n : new int[] {23999, 24000, 24001}) {
            List<File> files = book(1);
            files.add(noughts("x", n));
            is("a size of " + n, files, n > 24000 ? "5 4 0" : "1");
        }
        for (int by = -1; by <= 1; by++) {
            List<File> files = book(1);
            files.add(noughts("x", 24000));
            files.add(noughts("y", 24000));
            files.add(noughts("z", 60000 - sizeOf(files) + by));
            is("together " + (60000 + by), files, by > 0 ? "5 6 0" : "1");
            files.add(noughts("zz", 0));
            is("together " + (60000 + by) + ", and an empty one", files, by > 0 ? "5 6 0" : "1");
            files.add(noughts("zzz", 2));
            is("together " + (60002 + by), files, by > 0 ? "5 6 0" : "5 8 0");
        }
        for (int by : new int[] {-1, 1, 256, 65536, 1 << 24, 1 << 31}) {
            List<File> files = book(1);
            files.get(3).size += by;
            is("two different sizes by " + by, files, "5 3 0");
        }
        List<File> files = book(1);
        files.get(3).size = 24001;
        files.get(2).crc++;
        is("the file ahead comes first", files, "7 2 0");
    }

    private static void packedFiles() {
        List<File> files = book(1);
        for (int k = 1; k < 4; k++) {
            files.get(k).pack();
        }
        is("all packed", files, "1");
        File f = files.get(3);
        byte[] packed = f.packed;
        f.packed = java.util.Arrays.copyOf(packed, packed.length + 1);
        is("a byte too many", files, "6 3 0");
        f.packed = java.util.Arrays.copyOf(packed, packed.length - 1);
        is("a byte too few", files, "6 3 " + (packed.length - 1));
        f.packed = packed;
        f.size++;
        is("a size too great", files, "6 3 0");
        f.size -= 2;
        is("a size too small", files, "6 3 0");
        f.size++;
        f.crc ^= 1 << 31;
        is("another CRC", files, "7 3 0");
        f.crc ^= 1 << 31;
        f.packed = new byte[0];
        is("no bytes", files, "6 3 0");
        f.packed = Check.bytes(7);
        is("a block of kind 3", files, "6 3 1");
        f.packed = Check.bytes(1, 1, 0, 1, 0);
        is("stored lengths", files, "6 3 5");
        f.packed = noughts("x", 24001).packed;
        Check.same("too many bytes", Check.read(archive(files)).substring(0, 4), "6 3 ");
        Check.isTrue("told with its place", !Check.read(archive(files)).equals("6 3 0"));
        files = book(1);
        File empty = new File("x", new byte[0]);
        empty.method = 8;
        empty.packed = Check.bytes(3, 0);
        files.add(empty);
        is("an empty one packed", files, "1");
        empty.packed = Check.bytes(3, 252);
        is("bits behind its last block", files, "1");
        empty.packed = new byte[0];
        is("an empty one packed as nothing", files, "6 4 0");
    }

    private static void sums() {
        for (int k = 0; k < 4; k++) {
            for (int bit = 0; bit < 32; bit += 5) {
                List<File> files = book(1);
                files.get(k).crc ^= 1 << bit;
                is("CRC of " + k + ", bit " + bit, files, "7 " + k + " 0");
            }
        }
    }

    private static void withFile(int k, String text, String due) {
        List<File> files = book(2);
        files.set(k, new File(files.get(k).name, Check.utf8(text)));
        is("file " + k + " " + text, files, due);
    }

    private static void containers() {
        String path = "<rootfile full-path=\"o/p.opf\"/>";
        withFile(1, "<container><rootfiles>" + path + "</rootfiles></container>", "2");
        withFile(1, "<container>x<y/><rootfiles>z<y>" + path + "</y>" + path + "<rootfile/></rootfiles></container>", "2");
        withFile(1, "<container><rootfiles/></container>", "8 1 0");
        withFile(1, "<container>" + path + "</container>", "8 1 0");
        withFile(1, "<rootfiles>" + path + "</rootfiles>", "8 1 0");
        withFile(1, "<Container><rootfiles>" + path + "</rootfiles></Container>", "8 1 0");
        withFile(1, "<container><rootfiles/><rootfiles>" + path + "</rootfiles></container>", "8 1 0");
        withFile(1, "<container><rootfiles><rootfile path=\"o/p.opf\"/>" + path + "</rootfiles></container>", "8 1 0");
        withFile(1, "<container><y><rootfiles>" + path + "</rootfiles></y></container>", "8 1 0");
        withFile(1, "<container><rootfiles><y>" + path + "</y></rootfiles></container>", "8 1 0");
        withFile(1, "<container><rootfiles><rootfile full-path=\"\"/></rootfiles></container>", "9 -1 0");
        withFile(1, "<container><rootfiles><rootfile full-path=\"o/p.opf \"/></rootfiles></container>", "9 -1 0");
        withFile(1, "<container><rootfiles><rootfile full-path=\"p.opf\"/></rootfiles></container>", "9 -1 0");
        withFile(1, "", "8 1 0");
        withFile(1, "<container><rootfiles>" + path + "</rootfiles></container>x", "8 1 77");
        List<File> files = book(1);
        files.remove(1);
        is("no container", files, "8 -1 0");
        files = book(1);
        files.get(1).name = "META-INF/container.xmL";
        is("no container of that name", files, "8 -1 0");
        files = book(1);
        files.get(1).name = "NETA-INF/container.xml";
        is("no container of that name, too", files, "8 -1 0");
        files = book(1);
        files.add(files.remove(1));
        is("a container as the last file", files, "1");
    }

    private static String items(int n) {
        StringBuilder b = new StringBuilder();
        for (int k = 0; k < n; k++) {
            b.append("<item id=\"i" + k + "\" href=\"d" + k + ".x\"/>");
        }
        return b.toString();
    }

    private static void withPackage(String manifest, String spine, String due) {
        withFile(2, "<package><manifest>" + manifest + "</manifest><spine>" + spine + "</spine></package>", due);
    }

    private static void packages() {
        String one = "<itemref idref=\"i0\"/>";
        for (int n : new int[] {1, 39, 40, 41, 42}) {
            withPackage(items(n), one, n > 40 ? "9 2 0" : "1");
        }
        withPackage("", one, "9 2 0");
        withPackage(items(1), "", "9 2 0");
        withPackage(items(1), "<x/>", "9 2 0");
        withPackage(items(1) + "<item id=\"i1\"/>", one, "9 2 0");
        withPackage(items(1) + "<item href=\"i1\"/>", one, "9 2 0");
        withPackage(items(1) + "<item id=\"i0\" href=\"x\"/>", one, "9 2 0");
        withPackage(items(1) + "<item id=\"\" href=\"\"/>", one, "1");
        withPackage("<x>" + items(1) + "</x>", one, "9 2 0");
        withPackage(items(1), "<x>" + one + "</x>", "9 2 0");
        withPackage(items(1), one + "<itemref/>", "9 2 0");
        withPackage(items(1), one + "<itemref idref=\"\"/>", "9 2 0");
        withPackage(items(1), one + "<itemref idref=\"i1\"/>", "9 2 0");
        withPackage(items(1), "<itemref idref=\"I0\"/>", "9 2 0");
        withPackage(items(1), "<itemref id=\"i0\" idref=\"&#105;0\"/>", "1");
        withFile(2, "<package><manifest>" + items(1) + "</manifest></package>", "9 2 0");
        withFile(2, "<package><spine>" + one + "</spine></package>", "9 2 0");
        withFile(2, "<manifest/>", "9 2 0");
        withFile(2, "<package><manifest>" + items(1) + "</manifest><spine>" + one + "</spine>", "9 2 93");
        withFile(2, "<package><spine>" + one + "</spine><spine/><manifest>" + items(1) + "</manifest><manifest/></package>", "1");
        withFile(2, "<package><spine/><spine>" + one + "</spine><manifest>" + items(1) + "</manifest></package>", "9 2 0");
    }

    private static void spines() {
        withPackage(items(2), "<itemref idref=\"i1\"/><itemref idref=\"i0\"/>", "2");
        withPackage(items(3), "<itemref idref=\"i2\"/>", "10 2 0");
        withPackage(items(3), "<itemref idref=\"i0\"/><itemref idref=\"i1\"/><itemref idref=\"i2\"/>", "10 2 2");
        withPackage(items(3), "<itemref idref=\"i0\"/><itemref idref=\"i1\"/><itemref idref=\"i0\"/>", "10 2 2");
        withPackage(items(2) + "<item id=\"x\" href=\"d&#48;.x\"/>", "<itemref idref=\"i0\"/><itemref idref=\"x\"/>", "10 2 1");
        List<File> files = book(30);
        files.remove(files.size() - 1);
        is("the 30th is not there", files, "10 2 29");
        files = book(30);
        files.set(32, new File("o/d29.x", Check.utf8("<html")));
        is("the 30th is no XML", files, "10 32 5");
        files = book(30);
        files.set(32, new File("o/d29.x", Check.utf8("<htm/>")));
        is("the 30th is not as listed", files, "11 32 0");
        withPackage("<item id=\"a\" href=\"d0.x#b\"/>", "<itemref idref=\"a\"/>", "10 2 0");
        withPackage("<item id=\"a\" href=\"D0.x\"/>", "<itemref idref=\"a\"/>", "10 2 0");
        withPackage("<item id=\"a\" href=\"\"/>", "<itemref idref=\"a\"/>", "10 2 0");
        withPackage("<item id=\"a\" href=\"p.opf\"/>", "<itemref idref=\"a\"/>", "11 2 0");
    }

    private static Map<String, byte[]> inFolder(String folder, String link, String name) {
        Map<String, byte[]> files = new LinkedHashMap<>();
        files.put("mimetype", Check.utf8("application/epub+zip"));
        files.put("META-INF/container.xml", Check.utf8("<container><rootfiles><rootfile full-path=\"" + folder
            + "p\"/></rootfiles></container>"));
        files.put(folder + "p", Check.utf8("<package><manifest><item id=\"i\" href=\"" + link
            + "\"/></manifest><spine><itemref idref=\"i\"/></spine></package>"));
        files.put(name, Check.utf8(Check.html("<p id=\"k\"><a href=\"" + link + "#k\"/></p>")));
        return files;
    }

    private static void folders() {
        is("no folder", Check.archive(inFolder("", "a", "a")), "1");
        is("mimetype in the spine", Check.archive(inFolder("", "mimetype", "a")), "10 0 0");
        is("a folder", Check.archive(inFolder("f/", "a", "f/a")), "1");
        is("a folder in a folder", Check.archive(inFolder("f/g/", "a", "f/g/a")), "1");
        is("up to the last /", Check.archive(inFolder("f/g/", "a", "f/a")), "10 2 0");
        is("a file in a folder of the folder", Check.archive(inFolder("f/", "g/a", "f/g/a")), "1");
        is("not in the folder", Check.archive(inFolder("f/", "a", "a")), "10 2 0");
        is("not by its whole name", Check.archive(inFolder("f/", "f/a", "f/a")), "10 2 0");
        is("no folder, a /", Check.archive(inFolder("", "/a", "/a")), "1");
        is("/ alone", Check.archive(inFolder("/", "a", "/a")), "1");
    }

    private static void orderOfFaults() {
        byte[] b = archive(book(2));
        int end = b.length - 22;
        int central = b[end + 16] & 255 | (b[end + 17] & 255) << 8;
        byte[] two = changed(changed(b, central + 46 + 8, 0), 0, 0);
        is("2 of file 1 ahead of 3 of file 0", two, "2 1 " + (central + 54));
        is("1 ahead of all", changed(two, end, 0), "1 -1 " + end);
        List<File> files = book(2);
        files.get(0).name = "x";
        files.get(0).size = 24001;
        is("4 ahead of 5", files, "4 0 0");
        byte[] three = archive(files);
        three[three.length - 22 - 46 - 6 + 42] ^= 1;
        Check.same("3 of the last ahead of 4", Check.read(three).substring(0, 3), "3 4");
        files = book(2);
        files.get(4).size++;
        files.get(3).crc++;
        files.get(1).bytes = new byte[0];
        is("7 of a file ahead of 5 of the next", files, "7 3 0");
        files = book(2);
        files.get(4).crc++;
        files.set(1, new File(files.get(1).name, Check.utf8("<x>")));
        is("7 of the last ahead of 8", files, "7 4 0");
        files = book(2);
        files.set(1, new File(files.get(1).name, Check.utf8("<x/>")));
        files.set(2, new File(files.get(2).name, Check.utf8("<x>")));
        is("8 ahead of 9", files, "8 1 0");
        files = book(2);
        files.set(2, new File(files.get(2).name, Check.utf8("<x/>")));
        files.set(3, new File(files.get(3).name, Check.utf8("<x>")));
        is("9 ahead of 10", files, "9 2 0");
        files = book(2);
        files.set(3, new File(files.get(3).name, Check.utf8(Check.html("<p><a href=\"#x\"/></p>"))));
        files.set(4, new File(files.get(4).name, Check.utf8(Check.html("<q/>"))));
        is("11 of the second ahead of 12 of the first", files, "11 4 41");
        files.set(4, new File(files.get(4).name, Check.utf8("<html>")));
        is("10 of the second ahead of 12 of the first", files, "10 4 6");
        files.set(4, new File(files.get(4).name, Check.utf8(Check.html(""))));
        is("12 of the first", files, "12 3 44");
    }

    private static void body(String text, String due) {
        Check.same("read of " + text, Check.read(Check.archive(Check.bookFiles(Check.html(text)))), due);
    }

    private static void idsAndLinks() {
        body("<p id=\"a\"/><p id=\"b\"/>", "1");
        body("<p id=\"a\"/><p id=\"a\"/>", "11 3 52");
        body("<p id=\"a\"/><p id=\"A\"/><p id=\"aa\"/><p id=\"\"/>", "1");
        body("<p id=\"\"/><p id=\"\"/>", "11 3 51");
        body("<p id=\"&lt;\"/><p id=\"&#60;\"/>", "11 3 55");
        body("<p><em id=\"a\"/></p><hr id=\"a\"/>", "11 3 60");
        body("<ol start=\"1\"/>", "1");
        body("<ol start=\"123456789\"/>", "1");
        body("<ol start=\"000000000\"/>", "1");
        body("<ol start=\"1234567890\"/>", "11 3 41");
        body("<ol start=\"\"/>", "11 3 41");
        body("<ol start=\"1 \"/>", "11 3 41");
        body("<ol start=\"-1\"/>", "11 3 41");
        body("<ol start=\"/\"/>", "11 3 41");
        body("<ol start=\":\"/>", "11 3 41");
        body("<p id=\"a\"><a href=\"#a\"/></p>", "1");
        body("<p><a href=\"#a\" id=\"a\"/></p>", "1");
        body("<p id=\"a\"><a href=\"#A\"/></p>", "12 3 51");
        body("<p id=\"a\"><a href=\"#\"/></p>", "12 3 51");
        body("<p id=\"a\"><a href=\"d0.x#a\"/><a href=\"d0.x#\"/></p>", "12 3 69");
        body("<p><a href=\"d0.x\"/><a href=\"\"/><a href=\"d1.x#a\"/><a href=\"D0.x#a\"/></p>", "1");
        body("<p><img src=\"#a\" alt=\"#a\"/></p>", "1");
        body("<p id=\"#\"><a href=\"##\"/></p>", "1");
        Map<String, byte[]> files = Check.bookFiles(Check.html("<p><a href=\"d1.x#a\"/></p>"), Check.html("<p id=\"a\"/>"));
        is("into a later file", Check.archive(files), "2");
        files = Check.bookFiles(Check.html("<p id=\"a\"><a href=\"d1.x#a\"/></p>"), Check.html("<p id=\"b\"/>"));
        is("not into this file", Check.archive(files), "12 3 51");
    }

    private static void depthInSpines() {
        String in = "<blockquote>".repeat(57);
        String out = "</blockquote>".repeat(57);
        body(in + "<hr/>" + out, "1");
        body("<blockquote>" + in + "<hr/>" + out + "</blockquote>", "10 3 " + (41 + 58 * 12));
        body("<hr/>".repeat(2996), "1");
        body("<hr/>".repeat(2997), "10 3 " + (41 + 5 * 2996));
        Map<String, byte[]> many = new LinkedHashMap<>();
        for (Map.Entry<String, byte[]> e : Check.bookFiles(Check.html("<hr/>".repeat(1100)), Check.html("<hr/>".repeat(1100)),
            Check.html("<hr/>".repeat(1100))).entrySet()) {
            many.put(e.getKey(), e.getValue());
        }
        is("many elements in all files", Check.archive(many), "3");
        String most = Check.html("<p/>".repeat(2996));
        BookWorks x = new BookWorks();
        Check.tape(x, Check.packedArchive(Check.bookFiles(most, most, most, most,
            Check.html("<p/>".repeat(2600) + "<p id=\"i\">a</p>"))));
        Check.same("as many elements as can be", Check.read(x), "5");
        Check.same("its pages", x.pages(5, 16), 5);
        Check.same("the last one's letter", x.cell(4, 0, 0), 'a');
        Check.same("find in the last one", Check.find(x, 4, "i"), 4);
    }

    /** Files in another order than the spine has them. */
    private static void orderOfFiles() {
        int[][] orders = {{0, 1, 2, 3, 4}, {0, 3, 4, 1, 2}, {0, 4, 3, 2, 1}, {0, 2, 4, 1, 3}, {0, 3, 1, 4, 2}};
        String[] spines = {"<itemref idref=\"i0\"/><itemref idref=\"i1\"/>", "<itemref idref=\"i1\"/><itemref idref=\"i0\"/>"};
        String[] links = {"#a", "#b", "d0.x#a", "d1.x#b", "d0.x#b", "d1.x#a", "d1.x#", "x#b"};
        String[] due = {"2", "12", "2", "2", "12", "12", "12", "2"};
        for (int[] order : orders) {
            for (String spine : spines) {
                for (int k = 0; k < links.length; k++) {
                    List<File> files = book(2);
                    files.set(2, new File("o/p.opf", Check.utf8("<package><manifest>" + items(2) + "</manifest><spine>" + spine
                        + "</spine></package>")));
                    files.set(3, new File("o/d0.x", Check.utf8(Check.html("<p id=\"a\"><a href=\"" + links[k] + "\"/></p>"))));
                    files.set(4, new File("o/d1.x", Check.utf8(Check.html("<p id=\"b\">c</p>"))));
                    List<File> other = new ArrayList<>();
                    int place = 0;
                    for (int i = 0; i < 5; i++) {
                        other.add(files.get(order[i]));
                        place = order[i] == 3 ? i : place;
                    }
                    is(links[k] + " in order " + java.util.Arrays.toString(order), other,
                        due[k].equals("12") ? "12 " + place + " 51" : due[k]);
                }
            }
        }
    }

    private static void whatIsKept() {
        byte[] b = archive(book(2));
        BookWorks x = new BookWorks();
        Check.outputOf(x, Check.utf8("kept"));
        Check.tape(x, b);
        Check.same("read()", Check.read(x), "2");
        Check.tapeIs("the tape stays", x, b);
        Check.same("the output stays", new String(Check.output(x)), "kept");
        Check.same("pages()", x.pages(5, 16), 2);
        Check.same("read() again", Check.read(x), "2");
        Check.same("its pages have gone", x.about(7), 0);
        Check.same("pages()", x.pages(5, 16), 2);
        for (int n = 0; n < b.length; n += 37) {
            Check.tape(x, java.util.Arrays.copyOf(b, n));
            Check.same("a part of it", Check.read(x).substring(0, 5), "1 -1 ");
            Check.same("the book of before stays", x.about(6), 2);
            Check.same("with its pages", x.about(7), 2);
            Check.same("and its letters", x.cell(1, 0, 0), 'a');
        }
        Check.tape(x, "zz");
        Check.same("find in it", x.find(0), -1);
    }
}
