import java.io.ByteArrayInputStream;
import java.io.ByteArrayOutputStream;
import java.io.IOException;
import java.nio.charset.StandardCharsets;
import java.util.LinkedHashMap;
import java.util.Map;
import java.util.zip.CRC32;
import java.util.zip.ZipEntry;
import java.util.zip.ZipInputStream;

/** What the tests share: easy words for a works, and a count of the answers that are not as due. */
final class Check {
    static final String[] KINDS = {"doc", "quote", "list", "item", "par", "head", "rule", "code",
        "", "soft", "hard", "coding", "em", "strong", "link", "image"};
    private static int wrong = 0;
    private static int looked = 0;

    private Check() {
    }

    static void same(String what, long got, long due) {
        looked++;
        if (got != due) {
            wrong++;
            System.out.println(what + " answered " + got + ", due is " + due);
        }
    }

    static void same(String what, String got, String due) {
        looked++;
        if (!got.equals(due)) {
            wrong++;
            System.out.println(cut(what) + " answered\n" + cut(got) + "\ndue is\n" + cut(due));
        }
    }

    private static String cut(String text) {
        return text.length() > 600 ? text.substring(0, 600) + " .." : text;
    }

    static void isTrue(String what, boolean got) {
        same(what, got ? 1 : 0, 1);
    }

    static void isFalse(String what, boolean got) {
        same(what, got ? 1 : 0, 0);
    }

    /** Ends a test: with exit code 1 if an answer was not as due. */
    static void finish() {
        System.out.println(looked + " answers looked at, " + wrong + " wrong");
        if (wrong != 0) {
            System.exit(1);
        }
    }

    static byte[] utf8(String text) {
        return text.getBytes(StandardCharsets.UTF_8);
    }

    static byte[] bytes(int... values) {
        byte[] b = new byte[values.length];
        for (int k = 0; k < b.length; k++) {
            b[k] = (byte) values[k];
        }
        return b;
    }

    /** Puts bytes behind those of the tape. */
    static void feed(BookWorks x, byte[] b) {
        for (int at = 0; at < b.length; at += 20) {
            int[] words = new int[5];
            int n = Math.min(20, b.length - at);
            for (int k = 0; k < n; k++) {
                words[k / 4] |= (b[at + k] & 255) << 24 - 8 * (k % 4);
            }
            x.feed(words[0], words[1], words[2], words[3], words[4]);
            x.end(n);
        }
    }

    static void tape(BookWorks x, byte[] b) {
        x.cut(0);
        feed(x, b);
    }

    static void tape(BookWorks x, String text) {
        tape(x, utf8(text));
    }

    /** Whether the tape has just these bytes, told by their number and their CRC. */
    static void tapeIs(String what, BookWorks x, byte[] due) {
        CRC32 crc = new CRC32();
        crc.update(due);
        same(what + ": bytes of the tape", x.about(0), due.length);
        same(what + ": the tape's CRC", x.crc(), (int) crc.getValue());
    }

    /** Makes the output these bytes, told by rows of bits that any unpacker takes: stored blocks. */
    static void outputOf(BookWorks x, byte[] b) {
        ByteArrayOutputStream o = new ByteArrayOutputStream();
        o.write(1);
        two(o, b.length);
        two(o, ~b.length);
        o.writeBytes(b);
        tape(x, o.toByteArray());
        x.unpack();
    }

    static byte[] output(BookWorks x) {
        byte[] b = new byte[x.about(2)];
        for (int k = 0; k < b.length; k++) {
            b[k] = (byte) x.output(k);
        }
        return b;
    }

    static BookWorks withChapters(String... texts) {
        BookWorks x = new BookWorks();
        for (String text : texts) {
            tape(x, text);
            x.chapter();
        }
        return x;
    }

    /** Compiles: its size, or the error with its chapter and place. */
    static String compiled(BookWorks x) {
        try {
            int size = x.compile();
            return x.error(0) == 0 && size == x.about(2) ? "fine" : "odd";
        } catch (IllegalStateException e) {
            return "no chapters";
        } catch (IllegalArgumentException e) {
            return x.error(0) + " " + x.error(1) + " " + x.error(2);
        }
    }

    static String error(String... chapters) {
        return compiled(withChapters(chapters));
    }

    static BookWorks book(String... chapters) {
        BookWorks x = withChapters(chapters);
        same("compile of " + chapters[0], compiled(x), "fine");
        return x;
    }

    static String text(BookWorks x, int c, int k, boolean second) {
        StringBuilder b = new StringBuilder();
        int size = x.node(c, k, second ? 5 : 4);
        for (int i = 0; i < size; i++) {
            b.appendCodePoint(x.letter(c, k, second, i));
        }
        same("letter behind a text", x.letter(c, k, second, size), -1);
        return b.toString();
    }

    /** A chapter's tree: kinds with what they hold, TEXT as it is between bars. */
    static String tree(BookWorks x, int c) {
        StringBuilder b = new StringBuilder();
        int n = x.nodes(c);
        int[] stack = new int[64];
        int depth = 0;
        for (int k = 1; k < n; k++) {
            while (depth > 0 && stack[depth - 1] != x.node(c, k, 1)) {
                depth--;
                b.append(')');
            }
            b.append(b.length() == 0 || b.charAt(b.length() - 1) == '(' ? "" : " ");
            int kind = x.node(c, k, 0);
            b.append(KINDS[kind]);
            b.append(kind == 5 || kind == 2 || kind == 13 ? "" + x.node(c, k, 2) : "");
            b.append(x.node(c, k, 3) == 1 ? "loose" : "");
            boolean texts = kind == 7 || kind == 8 || kind == 11 || kind >= 14;
            b.append(texts ? "|" + text(x, c, k, false) + "|" : "");
            b.append(x.node(c, k, 5) > 0 ? "'" + text(x, c, k, true) + "'" : "");
            boolean holds = k + 1 < n && x.node(c, k + 1, 1) == k;
            if (holds) {
                b.append('(');
                stack[depth++] = k;
            }
        }
        for (; depth > 0; depth--) {
            b.append(')');
        }
        return b.toString();
    }

    static String treeOf(String chapter) {
        return tree(book(chapter), 0);
    }

    static String nameOf(BookWorks x, int h) {
        StringBuilder b = new StringBuilder();
        for (int i = 0; i < x.heading(h, 4); i++) {
            b.appendCodePoint(x.name(h, i));
        }
        return b.toString();
    }

    static String termOf(BookWorks x, int k) {
        StringBuilder b = new StringBuilder();
        for (int i = 0; i < x.term(k, 0); i++) {
            b.appendCodePoint(x.sign(k, i));
        }
        return b.toString();
    }

    /** The files of an archive, read by Java's own library. */
    static Map<String, String> files(byte[] archive) throws IOException {
        Map<String, String> files = new LinkedHashMap<>();
        ZipInputStream zip = new ZipInputStream(new ByteArrayInputStream(archive));
        for (ZipEntry e = zip.getNextEntry(); e != null; e = zip.getNextEntry()) {
            files.put(e.getName(), new String(zip.readAllBytes(), StandardCharsets.UTF_8));
        }
        return files;
    }

    /** What stands in a chapter's body. */
    static String bodyOf(BookWorks x, int c) throws IOException {
        String all = files(output(x)).get("OEBPS/c" + (c + 1) + ".xhtml");
        return all.substring(all.indexOf("<body>\n") + 7, all.indexOf("</body>"));
    }

    static void two(ByteArrayOutputStream o, int n) {
        o.write(n & 255);
        o.write(n >> 8 & 255);
    }

    static void four(ByteArrayOutputStream o, int n) {
        two(o, n);
        two(o, n >>> 16);
    }

    /** An archive of files as they are, by the document's words. */
    static byte[] archive(Map<String, byte[]> files) {
        return archive(files, false);
    }

    /** An archive in which files are packed where that is shorter, by the document's words. */
    static byte[] packedArchive(Map<String, byte[]> files) {
        return archive(files, true);
    }

    private static byte[] archive(Map<String, byte[]> files, boolean packing) {
        ByteArrayOutputStream o = new ByteArrayOutputStream();
        ByteArrayOutputStream central = new ByteArrayOutputStream();
        for (Map.Entry<String, byte[]> e : files.entrySet()) {
            byte[] name = utf8(e.getKey());
            byte[] bytes = e.getValue();
            byte[] packed = packing && !e.getKey().equals("mimetype") ? Packs.model(bytes) : bytes;
            boolean packs = packed.length < bytes.length;
            CRC32 crc = new CRC32();
            crc.update(bytes);
            ByteArrayOutputStream h = new ByteArrayOutputStream();
            two(h, 20);
            two(h, 0);
            two(h, packs ? 8 : 0);
            two(h, 0);
            two(h, 33);
            four(h, (int) crc.getValue());
            four(h, packs ? packed.length : bytes.length);
            four(h, bytes.length);
            two(h, name.length);
            two(h, 0);
            int at = o.size();
            o.writeBytes(bytes(80, 75, 3, 4));
            o.writeBytes(h.toByteArray());
            o.writeBytes(name);
            o.writeBytes(packs ? packed : bytes);
            central.writeBytes(bytes(80, 75, 1, 2, 20, 0));
            central.writeBytes(h.toByteArray());
            central.writeBytes(new byte[10]);
            four(central, at);
            central.writeBytes(name);
        }
        int at = o.size();
        o.writeBytes(central.toByteArray());
        o.writeBytes(bytes(80, 75, 5, 6, 0, 0, 0, 0));
        two(o, files.size());
        two(o, files.size());
        four(o, central.size());
        four(o, at);
        two(o, 0);
        return o.toByteArray();
    }

    /** The files of a book whose spine are documents o/d0.x, o/d1.x and so on. */
    static Map<String, byte[]> bookFiles(String... documents) {
        Map<String, byte[]> files = new LinkedHashMap<>();
        StringBuilder items = new StringBuilder();
        StringBuilder order = new StringBuilder();
        files.put("mimetype", utf8("application/epub+zip"));
        files.put("META-INF/container.xml",
            utf8("<container><rootfiles><rootfile full-path=\"o/p.opf\"/></rootfiles></container>"));
        for (int k = 0; k < documents.length; k++) {
            items.append("<item id=\"i" + k + "\" href=\"d" + k + ".x\"/>");
            order.append("<itemref idref=\"i" + k + "\"/>");
        }
        files.put("o/p.opf", utf8("<package><manifest>" + items + "</manifest><spine>" + order + "</spine></package>"));
        for (int k = 0; k < documents.length; k++) {
            files.put("o/d" + k + ".x", utf8(documents[k]));
        }
        return files;
    }

    static String html(String body) {
        return "<html><head><title>t</title></head><body>" + body + "</body></html>";
    }

    /** Reads the tape as an archive: how many files, or the fault with its file and place. */
    static String read(BookWorks x) {
        try {
            return "" + x.read();
        } catch (IllegalArgumentException e) {
            return x.fault(0) + " " + x.fault(1) + " " + x.fault(2);
        }
    }

    static String read(byte[] archive) {
        BookWorks x = new BookWorks();
        tape(x, archive);
        return read(x);
    }

    static BookWorks laidOut(int rows, int columns, String... bodies) {
        String[] documents = new String[bodies.length];
        for (int k = 0; k < bodies.length; k++) {
            documents[k] = html(bodies[k]);
        }
        BookWorks x = new BookWorks();
        tape(x, archive(bookFiles(documents)));
        same("read of " + bodies[0], read(x), "" + bodies.length);
        x.pages(rows, columns);
        return x;
    }

    /** All pages: their lines with / behind each, and # behind each page. */
    static String pages(BookWorks x) {
        StringBuilder b = new StringBuilder();
        for (int p = 0; p < x.about(7); p++) {
            for (int row = 0; row < x.page(p, 1); row++) {
                StringBuilder line = new StringBuilder();
                for (int column = 0; column < x.about(9); column++) {
                    line.appendCodePoint(x.cell(p, row, column));
                }
                b.append(line.toString().replaceAll(" +$", "")).append('/');
            }
            b.append('#');
        }
        return b.toString();
    }

    static int find(BookWorks x, int file, String id) {
        tape(x, id);
        return x.find(file);
    }
}
