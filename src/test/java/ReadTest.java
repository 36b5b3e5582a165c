import java.io.ByteArrayOutputStream;
import java.util.LinkedHashMap;
import java.util.Map;
import java.util.zip.CRC32;

/** Promises 24 and 25: read, and the faults of an archive. */
public final class ReadTest {
    public static void main(String[] args) {
        itsEnd();
        centralHeaders();
        localHeaders();
        mimetype();
        sizesAndBytes();
        container();
        packages();
        spines();
        listed();
        links();
        bookOfBefore();
        Check.finish();
    }

    private static byte[] good() {
        return Check.archive(Check.bookFiles(Check.html("<p>a</p>")));
    }

    private static int endOf(byte[] b) {
        return b.length - 22;
    }

    private static int centralOf(byte[] b) {
        int end = endOf(b);
        return b[end + 16] & 255 | (b[end + 17] & 255) << 8;
    }

    /** The archive with one byte made another. */
    private static byte[] with(int at, int value) {
        byte[] b = good();
        b[at] = (byte) value;
        return b;
    }

    private static void is(String what, byte[] archive, String due) {
        Check.same(what, Check.read(archive), due);
    }

    private static void itsEnd() {
        byte[] b = good();
        int end = endOf(b);
        is("a good one", b, "1");
        is("nothing", new byte[0], "1 -1 0");
        is("21 bytes", new byte[21], "1 -1 0");
        is("22 bytes", new byte[22], "1 -1 0");
        int[] wrong = {0, 1, 2, 3, 4, 5, 6, 7, 9, 11, 12, 13, 14, 15, 16, 17, 18, 19, 20, 21};
        for (int k : wrong) {
            is("END's byte " + k, with(end + k, b[end + k] + 1), "1 -1 " + end);
        }
        is("two numbers of files", with(end + 8, 5), "1 -1 " + end);
        byte[] longer = java.util.Arrays.copyOf(b, b.length + 1);
        is("a byte behind", longer, "1 -1 " + (end + 1));
        byte[] none = new byte[22];
        System.arraycopy(Check.bytes(80, 75, 5, 6), 0, none, 0, 4);
        is("no files", none, "1 -1 0");
        none[8] = 41;
        none[10] = 41;
        is("41 files", none, "1 -1 0");
        none[8] = 40;
        none[10] = 40;
        is("40 files that are not there", none, "2 0 0");
    }

    private static void centralHeaders() {
        byte[] b = good();
        int at = centralOf(b);
        int[] wrong = {0, 1, 2, 3, 4, 5, 6, 7, 8, 9, 10, 11, 12, 13, 14, 15, 29, 30, 31, 32, 33, 34, 35, 36, 37, 38, 39, 40, 41};
        for (int k : wrong) {
            is("central header's byte " + k, with(at + k, b[at + k] + 1), "2 0 " + at);
        }
        is("a name with 32", with(at + 46, 32), "2 0 " + at);
        is("a name with 127", with(at + 47, 127), "2 0 " + at);
        is("a name of 0", with(at + 28, 0), "2 0 " + at);
        is("a name of 61", with(at + 28, 61), "2 0 " + at);
        int last = endOf(b) - 46 - "o/d0.x".length();
        is("the last one's name too short", with(last + 28, 5), "2 3 " + last);
        is("the last one's name too long", with(last + 28, 7), "2 3 " + last);
        Map<String, byte[]> files = Check.bookFiles(Check.html(""));
        files.put("o/d0.y", new byte[0]);
        byte[] two = Check.archive(files);
        int name = endOf(two) - 1;
        two[name] = 'x';
        is("a name twice", two, "2 4 " + (endOf(two) - 46 - 6));
        byte[] count = good();
        count[endOf(count) + 8] = 3;
        count[endOf(count) + 10] = 3;
        is("more headers than files", count, "2 2 " + (centralOf(count) + 46 + 8 + 46 + 22));
        count[endOf(count) + 8] = 5;
        count[endOf(count) + 10] = 5;
        is("fewer headers than files", count, "2 4 " + endOf(count));
    }

    private static void localHeaders() {
        byte[] b = good();
        for (int k = 0; k < 38; k++) {
            is("local header's byte " + k, with(k, b[k] + 1), "3 0 0");
        }
        int at = centralOf(b);
        is("another beginning", with(at + 42, 1), "3 0 0");
        is("another packed size in both", withBoth(18, 21), "3 1 59");
        is("bytes beyond", withBoth(19, 9), "3 0 0");
        is("a size that is too great", withBoth(21, 255), "3 0 0");
        int second = at + 46 + 8;
        is("the second one's beginning", with(second + 42, 57), "3 1 58");
        Map<String, byte[]> files = Check.bookFiles(Check.html(""));
        byte[] gap = Check.archive(files);
        int last = endOf(gap) - 46 - 6;
        gap[last + 20]--;
        int local = gap[last + 42] & 255 | (gap[last + 43] & 255) << 8;
        gap[local + 18]--;
        is("the last one ends too early", gap, "3 3 " + local);
    }

    /** The first file's headers with one byte, told by its place in the local one, made another. */
    private static byte[] withBoth(int at, int value) {
        byte[] b = good();
        b[at] = (byte) value;
        b[centralOf(b) + at + 2] = (byte) value;
        return b;
    }

    private static void mimetype() {
        Map<String, byte[]> files = new LinkedHashMap<>();
        files.put("mimetypf", Check.utf8("application/epub+zip"));
        is("another name", Check.archive(files), "4 0 0");
        files.clear();
        files.put("mimetype", Check.utf8("application/epub+zi"));
        is("shorter", Check.archive(files), "4 0 0");
        files.put("mimetype", Check.utf8("application/epub+zipp"));
        is("longer", Check.archive(files), "4 0 0");
        files.put("mimetype", Check.utf8("application/epub-zip"));
        is("another", Check.archive(files), "4 0 0");
        is("packed", withBoth(8, 8), "4 0 0");
        files.put("mimetype", Check.utf8("application/epub+zip"));
        is("alone", Check.archive(files), "8 -1 0");
    }

    private static void sizesAndBytes() {
        is("two different sizes", withBoth(22, 21), "5 0 0");
        is("a size above 24000", withBoth(24, 1), "5 0 0");
        is("another CRC", withBoth(14, 0), "7 0 0");
        byte[] b = good();
        b[30 + 8 + 20 + 30 + 22 + 3] ^= 1;
        is("a byte flipped", b, "7 1 0");
        // A packed file, in place of the container: an empty block that is told to have bytes.
        byte[] empty = Check.bytes(3, 0);
        is("another size", packedFile(empty, 1, new byte[0]), "6 1 0");
        is("bytes behind", packedFile(Check.bytes(3, 0, 0), 0, new byte[0]), "6 1 0");
        is("a fault of unpacking", packedFile(Check.bytes(7, 0, 0), 0, new byte[0]), "6 1 1");
        is("bytes that end too early", packedFile(Check.bytes(1, 1, 0, 254, 255), 1, new byte[0]), "6 1 5");
        is("packed well, but no XML", packedFile(empty, 0, new byte[0]), "8 1 0");
        is("packed, another CRC", packedFile(Check.bytes(1, 1, 0, 254, 255, 65), 1, new byte[0]), "7 1 0");
        is("three of 19994 make more than 60000", packedFiles(19994, 3), "5 3 0");
        is("three of 19993 make 59999", packedFiles(19993, 3), "8 -1 0");
        is("24001", packedFiles(24001, 1), "5 1 0");
        is("24000", packedFiles(24000, 1), "8 -1 0");
    }

    private static byte[] manyBytes(int n) {
        byte[] b = new byte[n];
        java.util.Arrays.fill(b, (byte) 'a');
        return b;
    }

    private static void header(ByteArrayOutputStream o, int method, int crc, int packed, int size, int name) {
        Check.two(o, 20);
        Check.two(o, 0);
        Check.two(o, method);
        Check.two(o, 0);
        Check.two(o, 33);
        Check.four(o, crc);
        Check.four(o, packed);
        Check.four(o, size);
        Check.two(o, name);
        Check.two(o, 0);
    }

    /** mimetype and a packed container, whose bytes, size and (by what it ought to be) CRC are told. */
    private static byte[] packedFile(byte[] packed, int size, byte[] whole) {
        Map<String, byte[]> files = new LinkedHashMap<>();
        files.put("mimetype", Check.utf8("application/epub+zip"));
        byte[] first = java.util.Arrays.copyOf(Check.archive(files), 58);
        return archived(first, "META-INF/container.xml", packed, size, whole, 1);
    }

    private static byte[] packedFiles(int size, int times) {
        java.util.zip.Deflater deflater = new java.util.zip.Deflater(9, true);
        deflater.setInput(manyBytes(size));
        deflater.finish();
        byte[] b = new byte[3000];
        int n = deflater.deflate(b);
        deflater.end();
        Map<String, byte[]> files = new LinkedHashMap<>();
        files.put("mimetype", Check.utf8("application/epub+zip"));
        byte[] first = java.util.Arrays.copyOf(Check.archive(files), 58);
        return archived(first, "x", java.util.Arrays.copyOf(b, n), size, manyBytes(size), times);
    }

    private static byte[] archived(byte[] first, String name, byte[] packed, int size, byte[] whole, int times) {
        CRC32 crc = new CRC32();
        crc.update(whole);
        ByteArrayOutputStream o = new ByteArrayOutputStream();
        ByteArrayOutputStream central = new ByteArrayOutputStream();
        o.writeBytes(first);
        central.writeBytes(Check.bytes(80, 75, 1, 2, 20, 0));
        central.write(first, 4, 26);
        central.writeBytes(new byte[14]);
        central.writeBytes(Check.utf8("mimetype"));
        for (int k = 0; k < times; k++) {
            String own = times == 1 ? name : name + k;
            int at = o.size();
            o.writeBytes(Check.bytes(80, 75, 3, 4));
            header(o, 8, (int) crc.getValue(), packed.length, size, own.length());
            o.writeBytes(Check.utf8(own));
            o.writeBytes(packed);
            central.writeBytes(Check.bytes(80, 75, 1, 2, 20, 0));
            header(central, 8, (int) crc.getValue(), packed.length, size, own.length());
            central.writeBytes(new byte[10]);
            Check.four(central, at);
            central.writeBytes(Check.utf8(own));
        }
        int at = o.size();
        o.writeBytes(central.toByteArray());
        o.writeBytes(Check.bytes(80, 75, 5, 6, 0, 0, 0, 0));
        Check.two(o, times + 1);
        Check.two(o, times + 1);
        Check.four(o, central.size());
        Check.four(o, at);
        Check.two(o, 0);
        return o.toByteArray();
    }

    private static void withFile(String name, String text, String due) {
        Map<String, byte[]> files = Check.bookFiles(Check.html("<p>a</p>"), Check.html("<p id=\"i\">b</p>"));
        files.put(name, Check.utf8(text));
        Check.same("read with " + name + " " + text, Check.read(Check.archive(files)), due);
    }

    private static void container() {
        String name = "META-INF/container.xml";
        withFile(name, "<container><rootfiles><rootfile full-path=\"o/p.opf\"/></rootfiles></container>", "2");
        withFile(name, "<container><x/><rootfiles><y/><rootfile full-path=\"o&#47;p.opf\"/><rootfile/></rootfiles><rootfiles/></container>", "2");
        withFile(name, "<container>", "8 1 11");
        withFile(name, "<contain/>", "8 1 0");
        withFile(name, "<container/>", "8 1 0");
        withFile(name, "<container><rootfiles/><rootfiles><rootfile full-path=\"o/p.opf\"/></rootfiles></container>", "8 1 0");
        withFile(name, "<container><x><rootfiles><rootfile full-path=\"o/p.opf\"/></rootfiles></x></container>", "8 1 0");
        withFile(name, "<container><rootfiles><rootfile/><rootfile full-path=\"o/p.opf\"/></rootfiles></container>", "8 1 0");
        withFile(name, "<container><rootfiles><rootfile full-path=\"o/q.opf\"/></rootfiles></container>", "9 -1 0");
        withFile(name, "<container><rootfiles><rootfile full-path=\"o/p.op\"/></rootfiles></container>", "9 -1 0");
        withFile(name, "<container><rootfiles><rootfile full-path=\"o/p.opff\"/></rootfiles></container>", "9 -1 0");
        withFile(name, "<container><rootfiles><rootfile full-path=\"o/d1.x\"/></rootfiles></container>", "9 4 0");
        withFile(name, "<container><rootfiles><rootfile full-path=\"mimetype\"/></rootfiles></container>", "9 0 0");
    }

    private static void withPackage(String manifest, String spine, String due) {
        withFile("o/p.opf", "<package><manifest>" + manifest + "</manifest><spine>" + spine + "</spine></package>", due);
    }

    private static String items(int n) {
        StringBuilder b = new StringBuilder();
        for (int k = 0; k < n; k++) {
            b.append("<item id=\"i" + k + "\" href=\"d" + k + ".x\"/>");
        }
        return b.toString();
    }

    private static void packages() {
        String spine = "<itemref idref=\"i1\"/>";
        withPackage(items(2), spine, "1");
        withPackage("<x/>" + items(2) + "<y id=\"i0\"/>", "<z/>" + spine, "1");
        withFile("o/p.opf", "<package>" + "</packag>", "9 2 11");
        withFile("o/p.opf", "<pack/>", "9 2 0");
        withFile("o/p.opf", "<package><manifest/></package>", "9 2 0");
        withFile("o/p.opf", "<package><spine>" + spine + "</spine><x/><manifest>" + items(2) + "</manifest></package>", "1");
        withFile("o/p.opf", "<package><manifest/><manifest>" + items(2) + "</manifest><spine>" + spine + "</spine></package>", "9 2 0");
        withPackage("<item id=\"i1\"/>", spine, "9 2 0");
        withPackage("<item href=\"d1.x\"/>", spine, "9 2 0");
        withPackage(items(2) + "<item id=\"&#105;1\" href=\"d\"/>", spine, "9 2 0");
        withPackage(items(40), spine, "1");
        withPackage(items(41), spine, "9 2 0");
        withPackage(items(2), "", "9 2 0");
        withPackage(items(2), "<itemref/>", "9 2 0");
        withPackage(items(2), "<itemref idref=\"i2\"/>", "9 2 0");
        withPackage(items(2), "<itemref idref=\"i\"/>", "9 2 0");
        withPackage(items(40), "<itemref idref=\"i39\"/>".repeat(31), "9 2 0");
        withPackage(items(40), "<itemref idref=\"i39\"/>".repeat(30), "10 2 0");
    }

    private static void spines() {
        withPackage(items(3), "<itemref idref=\"i0\"/><itemref idref=\"i2\"/>", "10 2 1");
        withPackage(items(2), "<itemref idref=\"i0\"/><itemref idref=\"i0\"/>", "10 2 1");
        withPackage(items(2) + "<item id=\"j\" href=\"d0.x\"/>", "<itemref idref=\"i0\"/><itemref idref=\"j\"/>", "10 2 1");
        withPackage("<item id=\"j\" href=\"../mimetype\"/>", "<itemref idref=\"j\"/>", "10 2 0");
        withFile("o/d1.x", "<html>", "10 4 6");
        withFile("o/d0.x", "<p/>", "11 3 0");
        Map<String, byte[]> files = Check.bookFiles(Check.html("<q/>"), "<html>");
        Check.same("a file's 11 ahead of the next one's 10", Check.read(Check.archive(files)), "11 3 41");
        files.clear();
        files.put("mimetype", Check.utf8("application/epub+zip"));
        files.put("META-INF/container.xml",
            Check.utf8("<container><rootfiles><rootfile full-path=\"p\"/></rootfiles></container>"));
        files.put("p", Check.utf8("<package><manifest><item id=\"\" href=\"a/b\"/></manifest><spine><itemref idref=\"\"/></spine></package>"));
        files.put("a/b", Check.utf8(Check.html("")));
        Check.same("without a folder", Check.read(Check.archive(files)), "1");
    }

    private static void body(String text, String due) {
        Check.same("read of " + text, Check.read(Check.archive(Check.bookFiles(Check.html(text)))), due);
    }

    private static void whole(String text, String due) {
        Check.same("read of " + text, Check.read(Check.archive(Check.bookFiles(text))), due);
    }

    private static void listed() {
        whole("<html><head><title/></head><body/></html>", "1");
        whole("<html id=\"a\"> <head id=\"b\">\n<title id=\"c\">x</title></head> <body id=\"d\"> </body> </html>", "1");
        whole("<body/>", "11 3 0");
        whole("<html><body/></html>", "11 3 0");
        whole("<html><body/><head><title/></head></html>", "11 3 0");
        whole("<html><head><title/></head><body/><body/></html>", "11 3 0");
        whole("<html><head><title/></head><body/><x/></html>", "11 3 0");
        whole("<html>x<head><title/></head><body/></html>", "11 3 0");
        whole("<html><head/><body/></html>", "11 3 6");
        whole("<html><head><title/><title/></head><body/></html>", "11 3 6");
        whole("<html><head>x<title/></head><body/></html>", "11 3 6");
        whole("<html><head><title><em/></title></head><body/></html>", "11 3 19");
        whole("<html><head><title/></head><body>x</body></html>", "11 3 27");
        whole("<html><head><title/></head><body class=\"x\"/></html>", "11 3 27");
        body("<h1>a</h1><h6/><p/><hr/><hr></hr><pre><code>a</code></pre><blockquote><p/></blockquote>", "1");
        body("<ul><li>a<p>b</p>c<ul/></li> </ul><ol start=\"123456789\"><li/></ol>", "1");
        body("<p><em>a<strong>b</strong></em><code class=\"x\">c</code><a href=\"\" title=\"\">d</a><br/>"
            + "<img src=\"\" alt=\"\" title=\"\"/></p>", "1");
        body("<q/>", "11 3 41");
        body("<em/>", "11 3 41");
        body("<li/>", "11 3 41");
        body("<p><p/></p>", "11 3 44");
        body("<ul><p/></ul>", "11 3 45");
        body("<ul>x</ul>", "11 3 41");
        body("<ul>&#32;</ul>", "1");
        body("<blockquote>x</blockquote>", "11 3 41");
        body("<hr> </hr>", "11 3 41");
        body("<hr><br/></hr>", "11 3 45");
        body("<p><br>x</br></p>", "11 3 44");
        body("<p><img src=\"\" alt=\"\"> </img></p>", "11 3 44");
        body("<p><code><em/></code></p>", "11 3 50");
        body("<pre/>", "11 3 41");
        body("<pre><code/><code/></pre>", "11 3 41");
        body("<pre> <code/> </pre>", "1");
        body("<pre>x<code/></pre>", "11 3 41");
        body("<pre><em/></pre>", "11 3 41");
        body("<p><a href=\"\"><em><a href=\"\"/></em></a></p>", "11 3 59");
        body("<p><a/></p>", "11 3 44");
        body("<p><img src=\"\"/></p>", "11 3 44");
        body("<p><img alt=\"\"/></p>", "11 3 44");
        body("<p title=\"\"/>", "11 3 41");
        body("<p><em class=\"\"/></p>", "11 3 44");
        body("<ul start=\"1\"/>", "11 3 41");
        body("<ol start=\"\"/>", "11 3 41");
        body("<ol start=\"1234567890\"/>", "11 3 41");
        body("<ol start=\"1a\"/>", "11 3 41");
        body("<ol start=\"&#49;\"/>", "1");
        body("<p id=\"a\"/><p id=\"&#97;\"/>", "11 3 52");
        body("<p id=\"\"/><hr id=\"a\"/><p id=\"b\"/>", "1");
        body("<p other=\"\"/>", "11 3 41");
        body("<html/>", "11 3 41");
        body("<p>x<title/></p>", "11 3 45");
        body("<ul>x<q/></ul>", "11 3 41");
    }

    private static void links() {
        body("<p id=\"x\"><a href=\"#x\"/></p>", "1");
        body("<p><a href=\"#x\"/></p>", "12 3 44");
        body("<p><a href=\"&#35;x\"/></p>", "12 3 44");
        body("<p><a href=\"#\"/></p>", "12 3 44");
        body("<p id=\"\"><a href=\"#\"/></p>", "1");
        body("<p><a href=\"d0.x#x\"/></p>", "12 3 44");
        body("<p><a href=\"p.opf#x\"/></p>", "1");
        body("<p><a href=\"o/d0.x#x\"/></p>", "1");
        body("<p><a href=\"d0.x\"/></p>", "1");
        body("<p><a href=\"d0.#x\"/><a href=\"d0.xx#x\"/></p>", "1");
        body("<p id=\"x#y\"><a href=\"#x#y\"/></p>", "1");
        body("<p id=\"xy\"><a href=\"#x\"/></p>", "12 3 52");
        Map<String, byte[]> files = Check.bookFiles(Check.html("<p id=\"a\"><a href=\"d1.x#b\"/><a href=\"d1.x#a\"/></p>"),
            Check.html("<p id=\"b\"><a href=\"#a\"/></p>"));
        Check.same("the first file's", Check.read(Check.archive(files)), "12 3 69");
        files = Check.bookFiles(Check.html("<p id=\"a\"><a href=\"d1.x#b\"/></p>"),
            Check.html("<p id=\"b\"><a href=\"d0.x#a\"/><a href=\"#a\"/></p>"));
        Check.same("the second file's", Check.read(Check.archive(files)), "12 4 69");
        files = Check.bookFiles(Check.html("<p><a href=\"#a\"/></p>"), Check.html("<q/>"));
        Check.same("12 behind 11 of all", Check.read(Check.archive(files)), "11 4 41");
    }

    private static void bookOfBefore() {
        BookWorks x = Check.laidOut(5, 20, "<p>a</p>", "<p>b</p>");
        Check.same("files", x.about(6), 2);
        Check.same("pages", x.about(7), 2);
        Check.tape(x, "no archive");
        Check.same("a fault", Check.read(x), "1 -1 0");
        Check.same("files stay", x.about(6), 2);
        Check.same("pages stay", x.about(7), 2);
        Check.same("its letter stays", x.cell(1, 0, 0), 'b');
        Check.tape(x, Check.archive(Check.bookFiles(Check.html("<p>c</p>"))));
        Check.same("another one", Check.read(x), "1");
        Check.same("fault(0)", x.fault(0), 0);
        Check.same("fault(1)", x.fault(1), -1);
        Check.same("fault(2)", x.fault(2), -1);
        Check.same("fault(-1)", x.fault(-1), -1);
        Check.same("its pages are gone", x.about(7) + x.about(8) + x.about(9), 0);
        Check.same("no cell", x.cell(0, 0, 0), -1);
        Check.same("no page", x.page(0, 0), -1);
        Check.same("files", x.about(6), 1);
        Check.same("pages", x.pages(5, 20), 1);
        Check.same("its letter", x.cell(0, 0, 0), 'c');
    }
}
