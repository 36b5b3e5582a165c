/** Promises 1 to 6, 18 to 20: a new object, feed, end, cut, flip, take, about, output, crc. */
public final class TapeTest {
    public static void main(String[] args) {
        newObject();
        feedAndEnd();
        cutAndFlip();
        takeAndOutput();
        checksums();
        Check.finish();
    }

    private static void newObject() {
        BookWorks x = new BookWorks();
        for (int what = 0; what <= 9; what++) {
            Check.same("about(" + what + ") of a new object", x.about(what), 0);
        }
        Check.same("about(-1)", x.about(-1), BookWorks.NONE);
        Check.same("about(10)", x.about(10), -1);
        Check.same("output(0)", x.output(0), -1);
        Check.same("nodes(0)", x.nodes(0), 0);
        Check.same("node(0, 0, 0)", x.node(0, 0, 0), -1);
        Check.same("letter", x.letter(0, 0, false, 0), -1);
        Check.same("heading", x.heading(0, 0), -1);
        Check.same("name", x.name(0, 0), -1);
        Check.same("term", x.term(0, 0), -1);
        Check.same("sign", x.sign(0, 0), -1);
        Check.same("error(0)", x.error(0), 0);
        Check.same("error(1)", x.error(1), -1);
        Check.same("error(2)", x.error(2), -1);
        Check.same("fault(0)", x.fault(0), 0);
        Check.same("fault(1)", x.fault(1), -1);
        Check.same("fault(2)", x.fault(2), -1);
        Check.same("cell", x.cell(0, 0, 0), -1);
        Check.same("page", x.page(0, 0), -1);
        Check.same("find", x.find(0), -1);
        Check.same("take()", x.take(), 0);
        Check.same("end(0)", x.end(0), 0);
        Check.same("end(3)", x.end(3), 3);
        Check.same("crc of three noughts", x.crc(), 0xFF41D912);
    }

    private static void feedAndEnd() {
        BookWorks x = new BookWorks();
        x.feed(0x01020304, 0x05060708, 0x090A0B0C, 0x0D0E0F10, 0x111213FF);
        Check.same("end(-1)", x.end(-1), -1);
        Check.same("end(21)", x.end(21), -1);
        Check.same("end(20)", x.end(20), 20);
        Check.same("end(2) of what is 0 again", x.end(2), 22);
        x.feed(0x0A000000, 0, 0, 0, 0);
        x.feed(0x0B000000, 0, 0, 0, 0);
        Check.same("end(1)", x.end(1), 23);
        x.pack();
        x.take();
        x.unpack();
        for (int k = 0; k < 19; k++) {
            Check.same("byte " + k, x.output(k), k + 1);
        }
        Check.same("byte 19", x.output(19), 255);
        Check.same("byte 20", x.output(20), 0);
        Check.same("byte 21", x.output(21), 0);
        Check.same("byte 22", x.output(22), 11);
        Check.same("byte 23", x.output(23), -1);
        Check.same("byte -1", x.output(-1), -1);
        x.cut(0);
        for (int k = 0; k < 1200; k++) {
            x.end(20);
        }
        Check.same("a full tape", x.about(0), 24000);
        x.feed(0x41000000, 0, 0, 0, 0);
        Check.same("end(1) of a full tape", x.end(1), -1);
        Check.same("end(0) of a full tape", x.end(0), 24000);
        x.cut(23999);
        Check.same("end(2) with room for one", x.end(2), -1);
        Check.same("end(1) with room for one", x.end(1), 24000);
    }

    private static void cutAndFlip() {
        BookWorks x = new BookWorks();
        Check.tape(x, "abc");
        Check.isFalse("cut(4)", x.cut(4));
        Check.isFalse("cut(-1)", x.cut(-1));
        Check.isTrue("cut(3)", x.cut(3));
        Check.same("about(0)", x.about(0), 3);
        Check.isFalse("flip(3, 0)", x.flip(3, 0));
        Check.isFalse("flip(-1, 0)", x.flip(-1, 0));
        Check.isFalse("flip(0, 8)", x.flip(0, 8));
        Check.isFalse("flip(0, -1)", x.flip(0, -1));
        Check.isTrue("flip(0, 7)", x.flip(0, 7));
        Check.isTrue("flip(2, 0)", x.flip(2, 0));
        x.pack();
        x.take();
        x.unpack();
        Check.same("a flipped", x.output(0), 'a' + 128);
        Check.same("c flipped", x.output(2), 'b');
        Check.isTrue("cut(0)", x.cut(0));
        Check.same("about(0) of a cut tape", x.about(0), 0);
    }

    private static void takeAndOutput() {
        BookWorks x = new BookWorks();
        Check.tape(x, "some bytes some bytes");
        int n = x.pack();
        Check.same("about(2)", x.about(2), n);
        Check.tape(x, "other");
        Check.same("take()", x.take(), n);
        Check.same("about(0)", x.about(0), n);
        Check.same("the output stays", x.about(2), n);
        Check.same("unpack()", x.unpack(), 21);
        Check.same("output(20)", x.output(20), 's');
    }

    private static void checksums() {
        BookWorks x = new BookWorks();
        Check.same("crc of nothing", x.crc(), 0);
        Check.tape(x, "123456789");
        Check.same("crc of 123456789", x.crc(), 0xCBF43926);
        byte[] all = new byte[700];
        for (int k = 0; k < all.length; k++) {
            all[k] = (byte) (k * 7);
        }
        Check.tape(x, all);
        java.util.zip.CRC32 crc = new java.util.zip.CRC32();
        crc.update(all);
        Check.same("crc of 700 bytes", x.crc(), (int) crc.getValue());
    }
}
