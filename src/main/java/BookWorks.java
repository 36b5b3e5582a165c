/**
 * A works of books: chapters in a language of marks are read into trees, put together and packed
 * into an archive; archives are unpacked, looked through, read and laid out on pages.
 */
public final class BookWorks {
    public static final int NONE = -1;

    private static final int BYTES_MOST = 24000;
    private static final int FILES_MOST = 60000;
    private static final int CHAPTERS_MOST = 12;
    private static final int CHAPTER_MOST = 3000;

    private static final int DOCUMENT = 0;
    private static final int QUOTE = 1;
    private static final int LIST = 2;
    private static final int ITEM = 3;
    private static final int PARAGRAPH = 4;
    private static final int HEADING = 5;
    private static final int RULE = 6;
    private static final int CODE = 7;
    private static final int TEXT = 8;
    private static final int SOFT = 9;
    private static final int HARD = 10;
    private static final int CODING = 11;
    private static final int EMPHASIS = 12;
    private static final int STRONG = 13;
    private static final int LINK = 14;
    private static final int IMAGE = 15;

    private static final String XML_LINE = "<?xml version=\"1.0\" encoding=\"UTF-8\"?>";

    private final int[] tape = new int[BYTES_MOST];
    private int tapeSize;
    private int[] result = new int[BYTES_MOST];
    private int resultSize;
    private int[] work = new int[BYTES_MOST];
    private final int[] ready = new int[20];
    private final int[] texts = new int[CHAPTERS_MOST * CHAPTER_MOST];
    private final int[] textSizes = new int[CHAPTERS_MOST];
    private int textCount;
    private boolean known;
    private final int[] wrong = {0, NONE, NONE};
    private final int[] broken = {0, NONE, NONE};
    // The great parts are made when they are first used, so that an object that is
    // only fed stays small.
    private Blocks blocks;
    private Inlines inlines;
    private Index index;
    private Writer writer;
    private Packer packer;
    private Unpacker unpacker;
    private Archive book;
    private Archive spare;
    private Pages layout;

    public BookWorks() {
    }

    public void feed(int a, int b, int c, int d, int e) {
        putReady(0, a);
        putReady(4, b);
        putReady(8, c);
        putReady(12, d);
        putReady(16, e);
    }

    private void putReady(int at, int four) {
        for (int k = 0; k < 4; k++) {
            ready[at + k] = (four >>> (24 - 8 * k)) & 255;
        }
    }

    public int end(int n) {
        if (n < 0 || n > ready.length || tapeSize + n > BYTES_MOST) {
            return NONE;
        }
        for (int k = 0; k < n; k++) {
            tape[tapeSize + k] = ready[k];
        }
        tapeSize += n;
        for (int k = 0; k < ready.length; k++) {
            ready[k] = 0;
        }
        return tapeSize;
    }

    public boolean cut(int n) {
        if (n < 0 || n > tapeSize) {
            return false;
        }
        tapeSize = n;
        return true;
    }

    public boolean flip(int i, int bit) {
        if (i < 0 || i >= tapeSize || bit < 0 || bit > 7) {
            return false;
        }
        tape[i] ^= 1 << bit;
        return true;
    }

    public int take() {
        System.arraycopy(result, 0, tape, 0, resultSize);
        tapeSize = resultSize;
        return tapeSize;
    }

    public int chapter() throws IllegalStateException {
        if (textCount >= CHAPTERS_MOST || tapeSize > CHAPTER_MOST) {
            throw new IllegalStateException("no room for this chapter");
        }
        System.arraycopy(tape, 0, texts, textCount * CHAPTER_MOST, tapeSize);
        textSizes[textCount] = tapeSize;
        textCount++;
        tapeSize = 0;
        known = false;
        return textCount - 1;
    }

    public void drop() {
        textCount = 0;
        known = false;
    }

    public int compile() throws IllegalStateException, IllegalArgumentException {
        if (textCount == 0) {
            throw new IllegalStateException("there are no chapters");
        }
        makeParts();
        known = false;
        tellError(0, NONE, NONE);
        boolean fine = true;
        index.trees.clear();
        for (int c = 0; c < textCount && fine; c++) {
            fine = readChapter(c);
        }
        fine = fine && putTogether();
        int file = fine ? writer.writeFiles(textCount) : NONE;
        int size = fine && file == NONE ? writer.writeArchive(packer, work) : NONE;
        if (fine && size == NONE) {
            tellError(6, NONE, file == NONE ? writer.fileCount : file);
        }
        if (size == NONE) {
            throw new IllegalArgumentException("the chapters have an error");
        }
        putOut(size);
        known = true;
        return size;
    }

    private void makeParts() {
        makePacker();
        if (index == null) {
            Trees trees = new Trees();
            blocks = new Blocks(trees);
            inlines = new Inlines(trees);
            index = new Index(trees);
            writer = new Writer(index);
        }
    }

    private void makePacker() {
        if (packer == null) {
            packer = new Packer();
        }
    }

    private void makeUnpacker() {
        if (unpacker == null) {
            unpacker = new Unpacker();
        }
    }

    private void makeSpare() {
        if (spare == null) {
            spare = new Archive();
        }
    }

    private boolean tellError(int kind, int where, int place) {
        wrong[0] = kind;
        wrong[1] = where;
        wrong[2] = place;
        return kind == 0;
    }

    private void tellFault(int kind, int file, int place) {
        broken[0] = kind;
        broken[1] = file;
        broken[2] = place;
    }

    private boolean readChapter(int c) {
        int bad = blocks.load(texts, c * CHAPTER_MOST, textSizes[c]);
        if (bad != 0) {
            return tellError(bad, c, blocks.badByte);
        }
        for (int n = 0; n <= CHAPTER_MOST && blocks.hasLine(); n++) {
            if (!blocks.readLine(n)) {
                return tellError(5, c, n);
            }
        }
        blocks.finish();
        int leaf = 0;
        for (int k = 0; k < blocks.count; k++) {
            if (blocks.isGone(k)) {
                continue;
            }
            int at = blocks.toTree(c, k);
            if (!blocks.holdsInlines(k)) {
                continue;
            }
            bad = inlines.readLeaf(blocks.raw, blocks.textFrom(k), blocks.textTo(k));
            if (bad == 0 && !inlines.toTree(c, at)) {
                bad = 5;
            }
            if (bad != 0) {
                return tellError(bad, c, leaf);
            }
            leaf++;
        }
        return index.trees.counts[c] <= Trees.ROOM || tellError(5, c, NONE);
    }

    private boolean putTogether() {
        int c = index.collect(textCount);
        if (c != NONE) {
            return tellError(5, c, NONE);
        }
        index.sortTerms();
        if (!index.checkLinks(textCount)) {
            return tellError(4, index.badChapter, index.badLeaf);
        }
        return true;
    }

    /** The bytes in work become the output; the row of the old output is used again. */
    private void putOut(int size) {
        int[] old = result;
        result = work;
        work = old;
        resultSize = size;
    }

    public int error(int what) {
        return what >= 0 && what < wrong.length ? wrong[what] : NONE;
    }

    private boolean isKnown() {
        return known && index != null;
    }

    private boolean hasNode(int c, int k) {
        return isKnown() && c >= 0 && c < textCount && k >= 0 && k < index.trees.counts[c];
    }

    public int nodes(int chapter) {
        return hasNode(chapter, 0) ? index.trees.counts[chapter] : 0;
    }

    public int node(int chapter, int k, int what) {
        if (!hasNode(chapter, k)) {
            return NONE;
        }
        Trees trees = index.trees;
        switch (what) {
            case 0:
                return trees.kindOf(chapter, k);
            case 1:
                return trees.get(Trees.HOLDER, chapter, k);
            case 2:
                return trees.get(Trees.VALUE, chapter, k);
            case 3:
                return trees.isLoose(chapter, k) ? 1 : 0;
            case 4:
                return trees.textSize(chapter, k);
            case 5:
                return trees.get(Trees.MORE_SIZE, chapter, k);
            default:
                return NONE;
        }
    }

    public int letter(int chapter, int k, boolean second, int i) {
        if (!hasNode(chapter, k)) {
            return NONE;
        }
        return second ? index.trees.moreLetter(chapter, k, i) : index.trees.textLetter(chapter, k, i);
    }

    public int heading(int k, int what) {
        return isKnown() ? index.headingTold(k, what) : NONE;
    }

    public int name(int k, int i) {
        return isKnown() ? index.nameLetter(k, i) : NONE;
    }

    public int term(int k, int what) {
        return isKnown() ? index.termTold(k, what) : NONE;
    }

    public int sign(int k, int i) {
        return isKnown() ? index.termLetter(k, i) : NONE;
    }

    public int about(int what) {
        boolean laid = layout != null && layout.laid;
        switch (what) {
            case 0:
                return tapeSize;
            case 1:
                return textCount;
            case 2:
                return resultSize;
            case 3:
                return isKnown() ? index.headings : 0;
            case 4:
                return isKnown() ? index.strongs : 0;
            case 5:
                return isKnown() ? index.terms : 0;
            case 6:
                return book == null ? 0 : book.spineCount;
            case 7:
                return laid ? layout.sheetCount : 0;
            case 8:
                return laid ? layout.rows : 0;
            case 9:
                return laid ? layout.columns : 0;
            default:
                return NONE;
        }
    }

    public int output(int i) {
        return i >= 0 && i < resultSize ? result[i] : NONE;
    }

    public int crc() {
        return Marks.crcOf(tape, 0, tapeSize);
    }

    public int pack() throws IllegalStateException {
        makePacker();
        int size = packer.squeeze(tape, 0, tapeSize, work, BYTES_MOST);
        if (size > BYTES_MOST) {
            throw new IllegalStateException("packed it would be too long");
        }
        putOut(size);
        return size;
    }

    public int unpack() throws IllegalArgumentException {
        makeUnpacker();
        int size = unpacker.inflate(tape, 0, tapeSize, work);
        if (size == NONE) {
            tellFault(unpacker.bad, NONE, unpacker.taken());
            throw new IllegalArgumentException("the tape can't be unpacked");
        }
        tellFault(0, NONE, NONE);
        putOut(size);
        return size;
    }

    public int xml() throws IllegalArgumentException {
        makeSpare();
        Xml reader = spare.xml;
        if (!reader.parse(tape, 0, tapeSize, 0)) {
            tellFault(8, NONE, reader.place);
            throw new IllegalArgumentException("the tape is no XML");
        }
        tellFault(0, NONE, NONE);
        return reader.count;
    }

    public int read() throws IllegalArgumentException {
        makeUnpacker();
        makeSpare();
        Archive fresh = spare;
        boolean fine = fresh.readEnd(tape, tapeSize) && fresh.readHeaders()
            && fresh.unpackFiles(unpacker, work) && fresh.readContainer() && fresh.readPackage()
            && fresh.readSpine() && fresh.checkLinks();
        tellFault(fresh.bad[0], fresh.bad[1], fresh.bad[2]);
        if (!fine) {
            throw new IllegalArgumentException("the tape is no archive that can be read");
        }
        spare = book;
        book = fresh;
        if (layout != null) {
            layout.laid = false;
        }
        return book.spineCount;
    }

    public int fault(int what) {
        return what >= 0 && what < broken.length ? broken[what] : NONE;
    }

    public int pages(int rows, int columns) throws IllegalStateException, IllegalArgumentException {
        if (book == null) {
            throw new IllegalStateException("no book was read");
        }
        if (rows < 5 || rows > 60 || columns < 16 || columns > 80) {
            throw new IllegalArgumentException("no page has that size");
        }
        if (layout == null) {
            layout = new Pages();
        }
        // Counted first, because pages of before must stay if there are too many lines.
        layout.begin(book, columns, true);
        for (int f = 0; f < book.spineCount; f++) {
            layout.layFile(f);
        }
        if (layout.lineCount > Pages.LINES_MOST) {
            throw new IllegalStateException("the book has too many lines");
        }
        layout.begin(book, columns, false);
        for (int f = 0; f < book.spineCount; f++) {
            layout.layFile(f);
        }
        layout.fillPages(rows, columns);
        return layout.sheetCount;
    }

    public int cell(int page, int row, int column) {
        return layout != null && layout.laid ? layout.cellTold(page, row, column) : NONE;
    }

    public int page(int page, int what) {
        return layout != null && layout.laid ? layout.sheetTold(page, what) : NONE;
    }

    public int find(int file) {
        if (layout == null || !layout.laid || book == null || file < 0 || file >= book.spineCount) {
            return NONE;
        }
        int element = book.elementWithId(file, tape, tapeSize);
        return element == NONE ? NONE : layout.pageOf(file, element);
    }

    /** Kinds of characters, and the pieces of text that are found by looking along a row. */
    private static final class Marks {
        private static final String NAMES =
            "amp lt gt quot apos nbsp copy reg auml ouml uuml Auml Ouml Uuml szlig eacute euro hellip mdash ndash ";
        private static final int[] TOLD = {38, 60, 62, 34, 39, 160, 169, 174, 228, 246, 252,
            196, 214, 220, 223, 233, 8364, 8230, 8212, 8211};
        private static final int[] CRC_STEPS = {0, 0x1DB71064, 0x3B6E20C8, 0x26D930AC, 0x76DC4190,
            0x6B6B51F4, 0x4DB26158, 0x5005713C, 0xEDB88320, 0xF00F9344, 0xD6D6A3E8, 0xCB61B38C,
            0x9B64C2B0, 0x86D3D2D4, 0xA00AE278, 0xBDBDF21C};

        static boolean isWhite(int c) {
            return c == 32 || c == 10 || c == 9 || c == 13;
        }

        static boolean isLetter(int c) {
            return c >= 'a' && c <= 'z' || c >= 'A' && c <= 'Z';
        }

        static boolean isDigit(int c) {
            return c >= '0' && c <= '9';
        }

        static boolean isForbidden(int c) {
            return c < 32 && c != 9 && c != 10 && c != 13 || c == 65534 || c == 65535;
        }

        static int small(int c) {
            return c >= 'A' && c <= 'Z' ? c + 32 : c;
        }

        static boolean isAsciiPunctuation(int c) {
            return c >= 33 && c <= 47 || c >= 58 && c <= 64 || c >= 91 && c <= 96
                || c >= 123 && c <= 126;
        }

        static boolean isPunctuation(int c) {
            return isAsciiPunctuation(c) || c == 161 || c == 167 || c == 171 || c == 182 || c == 183
                || c == 187 || c == 191 || c >= 8208 && c <= 8286;
        }

        /** The value of a digit, also of a hexadecimal one; 16 of what is none. */
        static int digitOf(int c) {
            if (c >= '0' && c <= '9') {
                return c - '0';
            }
            if (c >= 'a' && c <= 'f') {
                return c - 'a' + 10;
            }
            return c >= 'A' && c <= 'F' ? c - 'A' + 10 : 16;
        }

        /** The number of the word (each has a space behind it) that stands in a row, or NONE. */
        static int wordNumber(String words, int[] t, int from, int to) {
            int number = 0;
            int met = 0;
            boolean alike = true;
            for (int k = 0; k < words.length(); k++) {
                char c = words.charAt(k);
                if (c != ' ') {
                    alike = alike && from + met < to && t[from + met] == c;
                    met++;
                    continue;
                }
                if (alike && from + met == to) {
                    return number;
                }
                number++;
                met = 0;
                alike = true;
            }
            return NONE;
        }

        /** How many bytes the character at a place has in UTF-8; 0 if it is none. */
        static int sizeAt(int[] b, int at, int end) {
            int c = b[at];
            if (c < 128) {
                return 1;
            }
            int n = c < 194 || c > 244 ? 0 : c < 224 ? 2 : c < 240 ? 3 : 4;
            if (n == 0 || at + n > end) {
                return 0;
            }
            for (int k = 1; k < n; k++) {
                if ((b[at + k] & 192) != 128) {
                    return 0;
                }
            }
            int value = valueAt(b, at, n);
            if (n == 3 && (value < 2048 || value >= 55296 && value <= 57343)) {
                return 0;
            }
            return n == 4 && (value < 65536 || value > 1114111) ? 0 : n;
        }

        static int valueAt(int[] b, int at, int n) {
            int c = b[at];
            int value = n == 1 ? c : n == 2 ? c & 31 : n == 3 ? c & 15 : c & 7;
            for (int k = 1; k < n; k++) {
                value = value << 6 | b[at + k] & 63;
            }
            return value;
        }

        /** Where the reference that begins at a place ends (behind its ;), or NONE. */
        static int referenceEnd(int[] t, int at, int end) {
            int p = at + 1;
            if (p >= end) {
                return NONE;
            }
            boolean number = t[p] == '#';
            boolean hex = number && p + 1 < end && (t[p + 1] == 'x' || t[p + 1] == 'X');
            int from = hex ? p + 2 : number ? p + 1 : p;
            int most = number && !hex ? 7 : 6;
            int q = from;
            while (q < end && q - from <= most
                && (number ? digitOf(t[q]) < (hex ? 16 : 10) : isLetter(t[q]))) {
                q++;
            }
            boolean fine = q > from && q - from <= most && q < end && t[q] == ';'
                && (number || wordNumber(NAMES, t, from, q) != NONE);
            return fine ? q + 1 : NONE;
        }

        /** The number that a reference tells, whatever it is. */
        static int referenceNumber(int[] t, int at, int behind) {
            if (t[at + 1] != '#') {
                int word = wordNumber(NAMES, t, at + 1, behind - 1);
                return word >= 0 && word < TOLD.length ? TOLD[word] : 0;
            }
            boolean hex = t[at + 2] == 'x' || t[at + 2] == 'X';
            int number = 0;
            for (int p = hex ? at + 3 : at + 2; p < behind - 1; p++) {
                number = number * (hex ? 16 : 10) + digitOf(t[p]);
            }
            return number;
        }

        static boolean isCharacter(int number) {
            return number > 0 && number <= 1114111 && (number < 55296 || number > 57343);
        }

        /** Where spaces, perhaps one 10, and spaces end. */
        static int gapEnd(int[] t, int at, int end) {
            boolean line = false;
            int p = at;
            while (p < end && (t[p] == 32 || t[p] == 10 && !line)) {
                line = line || t[p] == 10;
                p++;
            }
            return p;
        }

        /** Where the LABEL that begins at a place ends (behind its ]), or NONE. */
        static int labelEnd(int[] t, int at, int end) {
            if (at >= end || t[at] != '[') {
                return NONE;
            }
            boolean told = false;
            int p = at + 1;
            while (p < end && p - at <= 101) {
                int c = t[p];
                if (c == ']') {
                    return told ? p + 1 : NONE;
                }
                if (c == '[') {
                    return NONE;
                }
                told = told || !isWhite(c);
                p += c == '\\' ? 2 : 1;
            }
            return NONE;
        }

        /** Where the TARGET that begins at a place ends, or NONE. */
        static int targetEnd(int[] t, int at, int end) {
            boolean pointed = at < end && t[at] == '<';
            int open = 0;
            int p = pointed ? at + 1 : at;
            while (p < end) {
                int c = t[p];
                boolean pair = c == '\\' && p + 1 < end && isAsciiPunctuation(t[p + 1]);
                if (pointed) {
                    if (c == '>') {
                        return p + 1;
                    }
                    if (c == 10 || c == '<') {
                        return NONE;
                    }
                } else {
                    if (isWhite(c) || c == ')' && open == 0) {
                        break;
                    }
                    if (c == 127) {
                        return NONE;
                    }
                    open += c == '(' ? 1 : c == ')' ? -1 : 0;
                }
                p += pair ? 2 : 1;
            }
            return pointed || p == at || open > 0 ? NONE : p;
        }

        /** Where the TITLE that begins at a place ends, or NONE. */
        static int titleEnd(int[] t, int at, int end) {
            if (at >= end || t[at] != '"' && t[at] != '\'' && t[at] != '(') {
                return NONE;
            }
            int last = t[at] == '(' ? ')' : t[at];
            int p = at + 1;
            while (p < end) {
                int c = t[p];
                if (c == last) {
                    return p + 1;
                }
                if (c == '(' && last == ')') {
                    return NONE;
                }
                p += c == '\\' ? 2 : 1;
            }
            return NONE;
        }

        /** Puts a piece of text UNESCAPED into a row: where it ends there. */
        static int unescape(int[] t, int from, int to, int[] into, int at) {
            int size = at;
            int p = from;
            while (p < to && size < into.length) {
                int c = t[p];
                int behind = c == '&' ? referenceEnd(t, p, to) : NONE;
                if (behind != NONE) {
                    int number = referenceNumber(t, p, behind);
                    c = !isCharacter(number) || isForbidden(number) ? 65533 : number;
                    p = behind;
                } else if (c == '\\' && p + 1 < to && isAsciiPunctuation(t[p + 1])) {
                    c = t[p + 1];
                    p += 2;
                } else {
                    p++;
                }
                into[size] = c;
                size++;
            }
            return size;
        }

        /** Puts a label in its NORMAL form into a row: where it ends there. */
        static int normal(int[] t, int from, int to, int[] into, int at) {
            int size = at;
            boolean white = false;
            for (int p = from; p < to && size + 1 < into.length; p++) {
                if (isWhite(t[p])) {
                    white = size > at;
                    continue;
                }
                if (white) {
                    into[size] = 32;
                    size++;
                    white = false;
                }
                into[size] = small(t[p]);
                size++;
            }
            return size;
        }

        static int crcOf(int[] b, int from, int to) {
            int crc = -1;
            for (int p = from; p < to; p++) {
                crc ^= b[p];
                crc = crc >>> 4 ^ CRC_STEPS[crc & 15];
                crc = crc >>> 4 ^ CRC_STEPS[crc & 15];
            }
            return ~crc;
        }
    }

    /** The nodes of all chapters with their texts, and the definitions of the one that is read. */
    private static final class Trees {
        static final int ROOM = 1501;
        static final int HEAD = 0;
        static final int HOLDER = 1;
        static final int VALUE = 2;
        static final int AT = 3;
        static final int SIZE = 4;
        static final int MORE_AT = 5;
        static final int MORE_SIZE = 6;
        static final int LOOSE = 16;
        static final int IN_IMAGE = 32;
        static final int NUMBERED = 64;
        static final int AHEAD = 256;
        static final int MAIL = 13;
        private static final String MAIL_TO = "mailto:";
        private static final String FILE_END = ".xhtml";
        // A chapter's texts come from its characters, four at most for each byte (a tab), and
        // the 10 behind CODE's last line.
        private static final int POOL_MOST = CHAPTERS_MOST * (4 * CHAPTER_MOST + 8);

        final int[] counts = new int[CHAPTERS_MOST];
        final int[] pool = new int[POOL_MOST];
        int poolSize;
        private final int[][] rows = new int[7][CHAPTERS_MOST * ROOM];
        private final int[][] defined = new int[6][520];
        private int definitions;
        private final int[] labels = new int[CHAPTER_MOST + 8];
        private int labelsSize;
        private final int[] sought = new int[128];

        void clear() {
            poolSize = 0;
            for (int c = 0; c < counts.length; c++) {
                counts[c] = 0;
            }
        }

        void forgetDefinitions() {
            definitions = 0;
            labelsSize = 0;
        }

        /** A new node; NONE if there is no room (it counts, and is an ERROR later on). */
        int add(int c, int kind, int holder) {
            int k = counts[c];
            counts[c]++;
            if (k >= ROOM) {
                return NONE;
            }
            for (int row = 0; row < rows.length; row++) {
                rows[row][c * ROOM + k] = 0;
            }
            rows[HEAD][c * ROOM + k] = kind;
            rows[HOLDER][c * ROOM + k] = holder;
            return k;
        }

        int get(int row, int c, int k) {
            return rows[row][c * ROOM + k];
        }

        void set(int row, int c, int k, int value) {
            if (k >= 0) {
                rows[row][c * ROOM + k] = value;
            }
        }

        void mark(int c, int k, int bits) {
            if (k >= 0) {
                rows[HEAD][c * ROOM + k] |= bits;
            }
        }

        int kindOf(int c, int k) {
            return get(HEAD, c, k) & 15;
        }

        boolean isLoose(int c, int k) {
            return (get(HEAD, c, k) & LOOSE) != 0;
        }

        boolean isInImage(int c, int k) {
            return (get(HEAD, c, k) & IN_IMAGE) != 0;
        }

        boolean isNumbered(int c, int k) {
            return (get(HEAD, c, k) & NUMBERED) != 0;
        }

        /** What stands ahead of a target: 0 nothing, 1 .. 12 that chapter's file, MAIL. */
        int aheadOf(int c, int k) {
            return get(HEAD, c, k) / AHEAD;
        }

        void keep(int letter) {
            if (poolSize < pool.length) {
                pool[poolSize] = letter;
                poolSize++;
            }
        }

        void keepAll(int[] t, int from, int to) {
            for (int p = from; p < to; p++) {
                keep(t[p]);
            }
        }

        int keepUnescaped(int[] t, int from, int to) {
            int at = poolSize;
            poolSize = Marks.unescape(t, from, to, pool, poolSize);
            return at;
        }

        static int aheadSize(int ahead) {
            if (ahead == 0) {
                return 0;
            }
            return ahead == MAIL ? MAIL_TO.length() : (ahead < 10 ? 2 : 3) + FILE_END.length();
        }

        static int aheadLetter(int ahead, int i) {
            if (ahead == MAIL) {
                return MAIL_TO.charAt(i);
            }
            int digits = ahead < 10 ? 1 : 2;
            if (i == 0) {
                return 'c';
            }
            if (i > digits) {
                return FILE_END.charAt(i - 1 - digits);
            }
            return '0' + (i < digits ? ahead / 10 : ahead % 10);
        }

        int textSize(int c, int k) {
            return aheadSize(aheadOf(c, k)) + get(SIZE, c, k);
        }

        int textLetter(int c, int k, int i) {
            int ahead = aheadOf(c, k);
            int from = aheadSize(ahead);
            if (i < 0 || i >= from + get(SIZE, c, k)) {
                return NONE;
            }
            return i < from ? aheadLetter(ahead, i) : pool[get(AT, c, k) + i - from];
        }

        int moreLetter(int c, int k, int i) {
            return i >= 0 && i < get(MORE_SIZE, c, k) ? pool[get(MORE_AT, c, k) + i] : NONE;
        }

        /** Puts the PLAIN of what a node holds into a row: how many characters. */
        int plain(int c, int k, int[] into) {
            int size = 0;
            for (int j = k + 1; j < counts[c] && get(HOLDER, c, j) >= k; j++) {
                int kind = kindOf(c, j);
                boolean told = kind == TEXT || kind == CODING;
                int n = told ? get(SIZE, c, j) : kind == SOFT || kind == HARD ? 1 : 0;
                for (int i = 0; i < n && size < into.length; i++) {
                    into[size] = told ? pool[get(AT, c, j) + i] : 32;
                    size++;
                }
            }
            return size;
        }

        /** Keeps a definition, unless its label has one: at are the ends of label, target and title. */
        void define(int[] t, int[] at) {
            if (labelled(t, at[0], at[1]) != NONE || definitions >= defined[0].length) {
                return;
            }
            int d = definitions;
            definitions++;
            defined[0][d] = labelsSize;
            labelsSize = Marks.normal(t, at[0], at[1], labels, labelsSize);
            defined[1][d] = labelsSize - defined[0][d];
            defined[2][d] = poolSize;
            poolSize = Marks.unescape(t, at[2], at[3], pool, poolSize);
            defined[3][d] = poolSize - defined[2][d];
            defined[4][d] = poolSize;
            poolSize = Marks.unescape(t, at[4], at[5], pool, poolSize);
            defined[5][d] = poolSize - defined[4][d];
        }

        /** The definition that a label has, or NONE. */
        int labelled(int[] t, int from, int to) {
            int size = Marks.normal(t, from, to, sought, 0);
            for (int d = 0; d < definitions; d++) {
                int same = 0;
                while (same < size && size == defined[1][d] && labels[defined[0][d] + same] == sought[same]) {
                    same++;
                }
                if (same == size && size == defined[1][d]) {
                    return d;
                }
            }
            return NONE;
        }

        int definition(int d, int row) {
            return defined[row][d];
        }
    }

    /** The blocks of a chapter, line by line. They are kept in the order in which they begin. */
    private static final class Blocks {
        private static final int KIND = 0;
        private static final int HOLDER = 1;
        private static final int FIRST = 2;
        private static final int LAST = 3;
        private static final int VALUE = 4;
        private static final int HELD = 5;
        private static final int AT = 6;
        private static final int SIZE = 7;
        private static final int INFO_AT = 8;
        private static final int INFO_SIZE = 9;
        private static final int SIGN = 10;
        private static final int WIDTH = 11;
        private static final int INDENT = 12;
        private static final int STATE = 13;
        private static final int NODE = 14;
        private static final int LATEST = 15;
        private static final int ROWS = 16;
        private static final int LOOSE = 1;
        private static final int GONE = 2;
        private static final int DEEP_MOST = 12;
        private static final int BLOCKS_MOST = CHAPTER_MOST + 16;

        private static final int NOTHING = 0;
        private static final int AGAIN = 1;
        private static final int DONE = 2;
        private static final int UNDERLINE = 3;
        private static final int TOO_DEEP = 4;

        int badByte;
        int count;
        final int[] raw = new int[4 * CHAPTER_MOST + 64];
        private final Trees trees;
        private final int[] text = new int[CHAPTER_MOST];
        private int textSize;
        private int textAt;
        private final int[][] rows = new int[ROWS][BLOCKS_MOST];
        private int rawSize;
        private final int[] line = new int[4 * CHAPTER_MOST];
        private int lineSize;
        private int lineNumber;
        private int place;
        private final int[] open = new int[DEEP_MOST + 4];
        private int depth;
        private int matched;
        private boolean begun;
        private int closed;
        private final int[] parts = new int[6];

        Blocks(Trees kept) {
            trees = kept;
        }

        /** Takes a chapter's bytes: 0, or the ERROR of the byte badByte. */
        int load(int[] bytes, int from, int size) {
            textSize = 0;
            textAt = 0;
            rawSize = 0;
            trees.forgetDefinitions();
            int at = from;
            while (at < from + size && textSize < text.length) {
                int n = Marks.sizeAt(bytes, at, from + size);
                int c = Marks.valueAt(bytes, at, n);
                if (n == 0 || Marks.isForbidden(c)) {
                    badByte = at - from;
                    return n == 0 ? 1 : 2;
                }
                text[textSize] = c;
                textSize++;
                at += n;
            }
            count = 0;
            depth = 0;
            closed = NONE;
            lineNumber = 0;
            open[0] = make(DOCUMENT, NONE);
            depth = 1;
            return 0;
        }

        boolean hasLine() {
            return textAt < textSize;
        }

        private void loadLine() {
            lineSize = 0;
            while (textAt < textSize && text[textAt] != 10 && text[textAt] != 13) {
                int c = text[textAt];
                int times = c == 9 ? 4 - lineSize % 4 : 1;
                for (int k = 0; k < times && lineSize < line.length; k++) {
                    line[lineSize] = c == 9 ? 32 : c;
                    lineSize++;
                }
                textAt++;
            }
            boolean both = textAt + 1 < textSize && text[textAt] == 13 && text[textAt + 1] == 10;
            textAt += both ? 2 : 1;
        }

        private int make(int kind, int holder) {
            int k = count;
            count++;
            for (int row = 0; row < ROWS; row++) {
                rows[row][k] = 0;
            }
            rows[KIND][k] = kind;
            rows[HOLDER][k] = holder;
            rows[FIRST][k] = lineNumber;
            rows[LAST][k] = lineNumber;
            rows[LATEST][k] = NONE;
            if (holder != NONE) {
                rows[HELD][holder]++;
            }
            return k;
        }

        /** Reads the next line: whether no block in it is too deep. */
        boolean readLine(int number) {
            loadLine();
            lineNumber = number;
            place = 0;
            begun = false;
            closed = NONE;
            if (goOn()) {
                return true;
            }
            int step = AGAIN;
            for (int turn = 0; turn < lineSize + 3 && (step == AGAIN || step == UNDERLINE); turn++) {
                step = kindAt(matched - 1) == CODE ? NOTHING : beginning();
                if (step == UNDERLINE) {
                    settle(open[matched - 1]);
                    step = becomesHeading(open[matched - 1]) ? DONE : UNDERLINE;
                }
            }
            if (step == NOTHING) {
                takeRest();
            }
            if (closed != NONE) {
                settle(closed);
            }
            return step != TOO_DEEP;
        }

        private int kindAt(int level) {
            return rows[KIND][open[level]];
        }

        /** Where the spaces from the place on end. */
        private int spacesEnd() {
            int p = place;
            while (p < lineSize && line[p] == 32) {
                p++;
            }
            return p;
        }

        /** Which open blocks go on; whether a closing fence has taken the line. */
        private boolean goOn() {
            matched = 1;
            for (int level = 1; level < depth; level++) {
                int k = open[level];
                if (rows[KIND][k] == CODE && rows[SIGN][k] != 0 && isClosingFence(k)) {
                    rows[LAST][k] = lineNumber;
                    depth = level;
                    return true;
                }
                if (!goesOn(k)) {
                    return false;
                }
                matched = level + 1;
            }
            return false;
        }

        private boolean goesOn(int k) {
            int behind = spacesEnd();
            int indent = behind - place;
            boolean blank = behind == lineSize;
            switch (rows[KIND][k]) {
                case QUOTE:
                    return indent < 4 && takeQuoteSign(behind);
                case LIST:
                    return true;
                case ITEM:
                    if (blank) {
                        place = lineSize;
                        return rows[HELD][k] > 0;
                    }
                    if (indent < rows[WIDTH][k]) {
                        return false;
                    }
                    place += rows[WIDTH][k];
                    return true;
                case PARAGRAPH:
                    return !blank;
                case CODE:
                    boolean fenced = rows[SIGN][k] != 0;
                    if (!fenced && indent < 4 && !blank) {
                        return false;
                    }
                    place += Math.min(indent, fenced ? rows[INDENT][k] : 4);
                    return true;
                default:
                    return false;
            }
        }

        private boolean takeQuoteSign(int at) {
            if (at >= lineSize || line[at] != '>') {
                return false;
            }
            place = at + 1;
            if (place < lineSize && line[place] == 32) {
                place++;
            }
            return true;
        }

        private boolean isClosingFence(int k) {
            int at = spacesEnd();
            int p = rowEnd(at, rows[SIGN][k]);
            return at - place < 4 && p - at >= rows[WIDTH][k] && isBlankFrom(p);
        }

        private int rowEnd(int at, int sign) {
            int p = at;
            while (p < lineSize && line[p] == sign) {
                p++;
            }
            return p;
        }

        private boolean isBlankFrom(int at) {
            int p = at;
            while (p < lineSize && line[p] == 32) {
                p++;
            }
            return p >= lineSize;
        }

        /** Looks for a block that begins at the place. */
        private int beginning() {
            int at = spacesEnd();
            if (at >= lineSize) {
                return NOTHING;
            }
            if (at - place > 3) {
                return beginCode();
            }
            int c = line[at];
            if (c == '>') {
                takeQuoteSign(at);
                return begin(QUOTE) == NONE ? TOO_DEEP : AGAIN;
            }
            if (c == '#' && beginHeading(at) || (c == '`' || c == '~') && beginFence(at)) {
                return DONE;
            }
            if ((c == '=' || c == '-') && kindAt(matched - 1) == PARAGRAPH && isBlankFrom(rowEnd(at, c))) {
                return UNDERLINE;
            }
            if (isRule(at)) {
                begin(RULE);
                return DONE;
            }
            return beginItem(at);
        }

        /** What has not gone on is closed. */
        private void closeRest() {
            if (depth > matched && kindAt(depth - 1) == PARAGRAPH) {
                closed = open[depth - 1];
            }
            depth = matched;
        }

        /** A block begins in the one at hand; NONE if it would be too deep. */
        private int begin(int kind) {
            closeRest();
            if (kindAt(depth - 1) == PARAGRAPH) {
                closed = open[depth - 1];
                depth--;
            }
            if (kind != ITEM && kindAt(depth - 1) == LIST) {
                depth--;
            }
            matched = depth;
            if (kind <= ITEM && depth > DEEP_MOST || count >= BLOCKS_MOST) {
                return NONE;
            }
            int k = make(kind, open[depth - 1]);
            if (kind != HEADING && kind != RULE) {
                open[depth] = k;
                depth++;
                matched = depth;
            }
            begun = true;
            return k;
        }

        private int beginCode() {
            int tip = begun ? kindAt(matched - 1) : kindAt(depth - 1);
            if (tip != PARAGRAPH) {
                int k = begin(CODE);
                if (k != NONE) {
                    rows[AT][k] = rawSize;
                }
                place += 4;
            }
            return NOTHING;
        }

        private boolean beginHeading(int at) {
            int behind = rowEnd(at, '#');
            int level = behind - at;
            if (level > 6 || behind < lineSize && line[behind] != 32) {
                return false;
            }
            int k = begin(HEADING);
            if (k == NONE) {
                return true;
            }
            rows[VALUE][k] = level;
            place = behind;
            int from = spacesEnd();
            int to = trimmedEnd(from, lineSize);
            int sharp = to;
            while (sharp > from && line[sharp - 1] == '#') {
                sharp--;
            }
            if (sharp < to && (sharp == from || line[sharp - 1] == 32)) {
                to = trimmedEnd(from, sharp);
            }
            rows[AT][k] = rawSize;
            addRaw(from, to);
            rows[SIZE][k] = rawSize - rows[AT][k];
            return true;
        }

        private int trimmedEnd(int from, int to) {
            int end = to;
            while (end > from && line[end - 1] == 32) {
                end--;
            }
            return end;
        }

        private void addRaw(int from, int to) {
            for (int p = from; p < to && rawSize < raw.length; p++) {
                raw[rawSize] = line[p];
                rawSize++;
            }
        }

        private void addRawEnd() {
            if (rawSize < raw.length) {
                raw[rawSize] = 10;
                rawSize++;
            }
        }

        private boolean beginFence(int at) {
            int sign = line[at];
            int behind = rowEnd(at, sign);
            if (behind - at < 3) {
                return false;
            }
            for (int p = behind; p < lineSize && sign == '`'; p++) {
                if (line[p] == '`') {
                    return false;
                }
            }
            int indent = at - place;
            int k = begin(CODE);
            if (k == NONE) {
                return true;
            }
            rows[SIGN][k] = sign;
            rows[WIDTH][k] = behind - at;
            rows[INDENT][k] = indent;
            place = behind;
            int from = spacesEnd();
            rows[INFO_AT][k] = rawSize;
            addRaw(from, trimmedEnd(from, lineSize));
            rows[INFO_SIZE][k] = rawSize - rows[INFO_AT][k];
            rows[AT][k] = rawSize;
            return true;
        }

        /** An underlined paragraph becomes a heading, or has gone away: whether the line is done. */
        private boolean becomesHeading(int k) {
            depth--;
            matched = depth;
            if (isGone(k)) {
                return false;
            }
            rows[KIND][k] = HEADING;
            rows[VALUE][k] = line[spacesEnd()] == '=' ? 1 : 2;
            rows[LAST][k] = lineNumber;
            return true;
        }

        private boolean isRule(int at) {
            int sign = line[at];
            if (sign != '*' && sign != '-' && sign != '_') {
                return false;
            }
            int times = 0;
            for (int p = at; p < lineSize; p++) {
                if (line[p] == sign) {
                    times++;
                } else if (line[p] != 32) {
                    return false;
                }
            }
            return times >= 3;
        }

        /** Where a list's MARK ends (behind its sign), or NONE. */
        private int markEnd(int at) {
            int c = line[at];
            if (c == '*' || c == '+' || c == '-') {
                return at + 1;
            }
            int p = at;
            while (p < lineSize && p - at < 10 && Marks.isDigit(line[p])) {
                p++;
            }
            boolean fine = p > at && p - at < 10 && p < lineSize && (line[p] == '.' || line[p] == ')');
            return fine ? p + 1 : NONE;
        }

        private int beginItem(int at) {
            int behind = markEnd(at);
            if (behind == NONE || behind < lineSize && line[behind] != 32) {
                return NOTHING;
            }
            int sign = line[behind - 1];
            int number = 0;
            for (int p = at; p < behind - 1; p++) {
                number = number * 10 + line[p] - '0';
            }
            boolean blank = isBlankFrom(behind);
            boolean numbered = sign == '.' || sign == ')';
            if (kindAt(matched - 1) == PARAGRAPH && (blank || numbered && number != 1)) {
                return NOTHING;
            }
            int hand = open[matched - 1];
            if (rows[KIND][hand] != LIST || rows[SIGN][hand] != sign) {
                int list = begin(LIST);
                if (list == NONE) {
                    return TOO_DEEP;
                }
                rows[SIGN][list] = sign;
                rows[VALUE][list] = number;
            }
            int k = begin(ITEM);
            if (k == NONE) {
                return TOO_DEEP;
            }
            int start = place;
            place = behind;
            int spaces = spacesEnd() - behind;
            int n = spaces >= 1 && spaces <= 4 && !blank ? spaces : 1;
            rows[WIDTH][k] = behind + n - start;
            place = Math.min(behind + n, lineSize);
            return AGAIN;
        }

        /** What no beginning has taken of the line comes to a block. */
        private void takeRest() {
            int from = spacesEnd();
            boolean blank = from >= lineSize;
            if (!begun && depth > matched && !blank && kindAt(depth - 1) == PARAGRAPH) {
                addLine(open[depth - 1], from);
                return;
            }
            closeRest();
            int hand = open[matched - 1];
            if (rows[KIND][hand] == CODE) {
                addCodeLine(hand, blank);
            } else if (rows[KIND][hand] == PARAGRAPH) {
                addLine(hand, from);
            } else if (!blank) {
                int k = begin(PARAGRAPH);
                if (k != NONE) {
                    rows[AT][k] = rawSize;
                    addLine(k, from);
                }
            }
        }

        private void addLine(int k, int from) {
            if (rows[SIZE][k] > 0) {
                addRawEnd();
            }
            addRaw(from, lineSize);
            rows[SIZE][k] = rawSize - rows[AT][k];
            rows[LAST][k] = lineNumber;
        }

        private void addCodeLine(int k, boolean blank) {
            addRaw(place, lineSize);
            addRawEnd();
            // Blank lines of CODE without a fence count only when a later one is not blank.
            if (!blank || rows[SIGN][k] != 0) {
                rows[SIZE][k] = rawSize - rows[AT][k];
                rows[LAST][k] = lineNumber;
            }
        }

        /** A paragraph is closed: its definitions are taken, and it may go away. */
        private void settle(int k) {
            int at = rows[AT][k];
            int end = at + rows[SIZE][k];
            int behind = definitionEnd(at, end);
            for (int turn = 0; turn < rows[SIZE][k] && behind != NONE; turn++) {
                trees.define(raw, parts);
                at = behind;
                behind = definitionEnd(at, end);
            }
            while (end > at && raw[end - 1] == 32) {
                end--;
            }
            rows[AT][k] = at;
            rows[SIZE][k] = end - at;
            if (end == at) {
                rows[STATE][k] |= GONE;
                if (rows[HOLDER][k] != NONE) {
                    rows[HELD][rows[HOLDER][k]]--;
                }
            }
        }

        /** Where the text goes on behind a definition, whose parts are kept; or NONE. */
        private int definitionEnd(int at, int end) {
            int label = Marks.labelEnd(raw, at, end);
            if (label == NONE || label >= end || raw[label] != ':') {
                return NONE;
            }
            int target = Marks.gapEnd(raw, label + 1, end);
            int targetEnd = Marks.targetEnd(raw, target, end);
            if (targetEnd == NONE) {
                return NONE;
            }
            int title = Marks.gapEnd(raw, targetEnd, end);
            int titleEnd = title > targetEnd ? Marks.titleEnd(raw, title, end) : NONE;
            int stop = titleEnd == NONE ? NONE : rawLineEnd(titleEnd, end);
            boolean titled = stop != NONE;
            if (!titled) {
                stop = rawLineEnd(targetEnd, end);
            }
            boolean pointed = raw[target] == '<';
            parts[0] = at + 1;
            parts[1] = label - 1;
            parts[2] = pointed ? target + 1 : target;
            parts[3] = pointed ? targetEnd - 1 : targetEnd;
            parts[4] = titled ? title + 1 : 0;
            parts[5] = titled ? titleEnd - 1 : 0;
            return stop;
        }

        /** Behind spaces and the 10, or at the end; NONE if something else stands there. */
        private int rawLineEnd(int at, int end) {
            int p = at;
            while (p < end && raw[p] == 32) {
                p++;
            }
            if (p >= end) {
                return end;
            }
            return raw[p] == 10 ? p + 1 : NONE;
        }

        /** The document's end: all is closed, and what is LAST and LOOSE becomes known. */
        void finish() {
            if (kindAt(depth - 1) == PARAGRAPH) {
                settle(open[depth - 1]);
            }
            depth = 1;
            for (int k = count - 1; k > 0; k--) {
                int holder = rows[HOLDER][k];
                if (!isGone(k) && holder != NONE) {
                    rows[LAST][holder] = Math.max(rows[LAST][holder], rows[LAST][k]);
                }
            }
            for (int k = 1; k < count; k++) {
                int holder = rows[HOLDER][k];
                if (isGone(k) || holder == NONE) {
                    continue;
                }
                int other = rows[LATEST][holder];
                if (other != NONE && rows[FIRST][k] - rows[LAST][other] > 1) {
                    loosen(rows[KIND][k] == ITEM ? holder : rows[HOLDER][holder]);
                }
                rows[LATEST][holder] = k;
            }
        }

        private void loosen(int list) {
            if (list != NONE && rows[KIND][list] == LIST) {
                rows[STATE][list] |= LOOSE;
            }
        }

        boolean isGone(int k) {
            return (rows[STATE][k] & GONE) != 0;
        }

        boolean holdsInlines(int k) {
            return rows[KIND][k] == PARAGRAPH || rows[KIND][k] == HEADING;
        }

        int textFrom(int k) {
            return rows[AT][k];
        }

        int textTo(int k) {
            return rows[AT][k] + rows[SIZE][k];
        }

        /** Puts a block into the tree: its node there. */
        int toTree(int c, int k) {
            int holder = rows[HOLDER][k];
            int node = trees.add(c, rows[KIND][k], holder == NONE ? NONE : rows[NODE][holder]);
            rows[NODE][k] = node;
            trees.set(Trees.VALUE, c, node, rows[VALUE][k]);
            if ((rows[STATE][k] & LOOSE) != 0) {
                trees.mark(c, node, Trees.LOOSE);
            }
            if (rows[SIGN][k] == '.' || rows[SIGN][k] == ')') {
                trees.mark(c, node, Trees.NUMBERED);
            }
            if (rows[KIND][k] == CODE) {
                trees.set(Trees.AT, c, node, trees.poolSize);
                trees.set(Trees.SIZE, c, node, rows[SIZE][k]);
                trees.keepAll(raw, textFrom(k), textTo(k));
                trees.set(Trees.MORE_AT, c, node, trees.poolSize);
                trees.set(Trees.MORE_SIZE, c, node, rows[INFO_SIZE][k]);
                trees.keepAll(raw, rows[INFO_AT][k], rows[INFO_AT][k] + rows[INFO_SIZE][k]);
            }
            return node;
        }
    }

    /** The inlines of a leaf: a chain of items, of which runs and brackets wait for their partners. */
    private static final class Inlines {
        private static final int ITEMS_MOST = 5000;
        private static final int WAITING_MOST = CHAPTER_MOST + 8;
        private static final int DEEP_MOST = 20;

        private static final int KIND = 0;
        private static final int NEXT = 1;
        private static final int BEFORE = 2;
        private static final int HELD = 3;
        private static final int AT = 4;
        private static final int SIZE = 5;
        private static final int LOOSE_TEXT = 6;
        private static final int TARGET_AT = 7;
        private static final int TARGET_SIZE = 8;
        private static final int TITLE_AT = 9;
        private static final int TITLE_SIZE = 10;
        private static final int SELF = 11;
        private static final int ROWS = 12;

        // SELF tells that a link's target is its own text, perhaps with mailto: ahead.
        private static final int SELF_PLAIN = 1;
        private static final int SELF_MAIL = 2;

        private static final int RUN_ITEM = 0;
        private static final int RUN_SIGN = 1;
        private static final int RUN_SIZE = 2;
        private static final int RUN_OPENS = 3;
        private static final int RUN_CLOSES = 4;
        private static final int RUN_PASSED = 5;

        private static final int BRACKET_ITEM = 0;
        private static final int BRACKET_AT = 1;
        private static final int BRACKET_RUNS = 2;
        private static final int BRACKET_STATE = 3;
        private static final int OF_IMAGE = 1;
        private static final int DEAD = 2;
        private static final int MET = 4;

        private final Trees trees;
        private int[] text;
        private int from;
        private int to;
        private int at;
        private int bad;
        private final int[] letters = new int[4 * CHAPTER_MOST + 64];
        private int lettersSize;
        private final int[][] items = new int[ROWS][ITEMS_MOST];
        private int itemCount;
        private int tail;
        private final int[][] runs = new int[6][WAITING_MOST];
        private int runCount;
        private final int[][] brackets = new int[4][WAITING_MOST];
        private int bracketCount;
        private final int[] parts = new int[4];
        private final int[][] levels = new int[2][DEEP_MOST + 2];

        Inlines(Trees kept) {
            trees = kept;
        }

        /** Reads a leaf's text: 0, or the ERROR (2 or 3) that is met first. */
        int readLeaf(int[] raw, int begin, int behind) {
            text = raw;
            from = begin;
            to = behind;
            at = begin;
            bad = 0;
            lettersSize = 0;
            itemCount = 0;
            runCount = 0;
            bracketCount = 0;
            tail = NONE;
            add(DOCUMENT);
            for (int turn = from; turn < to && at < to && bad == 0; turn++) {
                int c = text[at];
                switch (c) {
                    case 10:
                        takeLineEnd();
                        break;
                    case '\\':
                        takeEscape();
                        break;
                    case '`':
                        takeCoding();
                        break;
                    case '<':
                        takePointed();
                        break;
                    case '&':
                        takeReference();
                        break;
                    case '*':
                    case '_':
                        takeRun(c);
                        break;
                    case '[':
                        takeBracket(0);
                        break;
                    case ']':
                        closeBracket();
                        break;
                    default:
                        takeOther(c);
                        break;
                }
            }
            pairRuns(0);
            return bad;
        }

        /** A new item at the chain's end. */
        private int add(int kind) {
            if (itemCount >= ITEMS_MOST) {
                return ITEMS_MOST - 1;
            }
            int k = make(kind);
            items[BEFORE][k] = tail;
            if (tail != NONE) {
                items[NEXT][tail] = k;
            }
            tail = k;
            return k;
        }

        private int make(int kind) {
            int k = Math.min(itemCount, ITEMS_MOST - 1);
            itemCount = k + 1;
            for (int row = 0; row < ROWS; row++) {
                items[row][k] = 0;
            }
            items[KIND][k] = kind;
            items[NEXT][k] = NONE;
            items[BEFORE][k] = NONE;
            items[HELD][k] = NONE;
            items[AT][k] = lettersSize;
            return k;
        }

        private void keep(int letter) {
            if (lettersSize < letters.length) {
                letters[lettersSize] = letter;
                lettersSize++;
            }
        }

        /** A character of TEXT, in the last item if that is such a text. */
        private void put(int letter) {
            int k = tail;
            if (items[LOOSE_TEXT][k] == 0 || items[AT][k] + items[SIZE][k] != lettersSize) {
                k = add(TEXT);
                items[LOOSE_TEXT][k] = 1;
            }
            keep(letter);
            items[SIZE][k] = lettersSize - items[AT][k];
        }

        private void takeOther(int c) {
            if (c == '!' && at + 1 < to && text[at + 1] == '[') {
                takeBracket(OF_IMAGE);
                return;
            }
            put(c);
            at++;
        }

        private void takeLineEnd() {
            int spaces = 0;
            while (at - spaces > from && text[at - spaces - 1] == 32) {
                spaces++;
            }
            if (items[KIND][tail] == TEXT) {
                items[SIZE][tail] -= Math.min(spaces, items[SIZE][tail]);
            }
            add(spaces >= 2 ? HARD : SOFT);
            at++;
        }

        private void takeEscape() {
            int next = at + 1 < to ? text[at + 1] : 0;
            if (next == 10) {
                add(HARD);
                at += 2;
            } else if (Marks.isAsciiPunctuation(next)) {
                put(next);
                at += 2;
            } else {
                put('\\');
                at++;
            }
        }

        private int rowEnd(int begin, int sign) {
            int p = begin;
            while (p < to && text[p] == sign) {
                p++;
            }
            return p;
        }

        private void takeCoding() {
            int begin = rowEnd(at, '`');
            int n = begin - at;
            int close = begin;
            while (close < to) {
                int behind = rowEnd(close, '`');
                if (behind - close == n) {
                    break;
                }
                close = behind > close ? behind : close + 1;
            }
            if (close < to) {
                addCoding(begin, close);
                at = close + n;
                return;
            }
            for (int k = 0; k < n; k++) {
                put('`');
            }
            at = begin;
        }

        private void addCoding(int begin, int close) {
            int k = add(CODING);
            boolean blank = true;
            for (int p = begin; p < close; p++) {
                int c = text[p] == 10 ? 32 : text[p];
                blank = blank && c == 32;
                keep(c);
            }
            int size = lettersSize - items[AT][k];
            boolean trimmed = !blank && size > 1 && letters[items[AT][k]] == 32 && letters[lettersSize - 1] == 32;
            items[AT][k] += trimmed ? 1 : 0;
            items[SIZE][k] = trimmed ? size - 2 : size;
        }

        private void takePointed() {
            int behind = schemeLinkEnd();
            boolean mail = behind == NONE;
            if (mail) {
                behind = mailLinkEnd();
            }
            if (behind != NONE) {
                addSelfLink(behind - 1, mail ? SELF_MAIL : SELF_PLAIN);
                at = behind;
            } else if (isRaw()) {
                bad = 3;
            } else {
                put('<');
                at++;
            }
        }

        private int schemeLinkEnd() {
            int p = at + 1;
            if (p >= to || !Marks.isLetter(text[p])) {
                return NONE;
            }
            while (p < to && (Marks.isLetter(text[p]) || Marks.isDigit(text[p]) || text[p] == '+'
                || text[p] == '-' || text[p] == '.')) {
                p++;
            }
            int size = p - at - 1;
            if (size < 2 || size > 32 || p >= to || text[p] != ':') {
                return NONE;
            }
            p++;
            while (p < to && text[p] > 32 && text[p] != '<' && text[p] != '>' && text[p] != 127) {
                p++;
            }
            return p < to && text[p] == '>' ? p + 1 : NONE;
        }

        private int mailRowEnd(int begin) {
            int p = begin;
            while (p < to && (Marks.isLetter(text[p]) || Marks.isDigit(text[p]) || text[p] == '.'
                || text[p] == '-' || text[p] == '_' || text[p] == '+')) {
                p++;
            }
            return p;
        }

        private int mailLinkEnd() {
            int sign = mailRowEnd(at + 1);
            if (sign == at + 1 || sign >= to || text[sign] != '@') {
                return NONE;
            }
            int behind = mailRowEnd(sign + 1);
            if (behind == sign + 1 || behind >= to || text[behind] != '>') {
                return NONE;
            }
            int first = text[sign + 1];
            int last = text[behind - 1];
            boolean fine = (Marks.isLetter(first) || Marks.isDigit(first))
                && (Marks.isLetter(last) || Marks.isDigit(last));
            return fine ? behind + 1 : NONE;
        }

        private void addSelfLink(int close, int self) {
            int link = add(LINK);
            items[SELF][link] = self;
            int k = make(TEXT);
            items[HELD][link] = k;
            for (int p = at + 1; p < close; p++) {
                keep(text[p]);
            }
            items[SIZE][k] = lettersSize - items[AT][k];
            killBrackets();
        }

        private void killBrackets() {
            for (int k = 0; k < bracketCount; k++) {
                if ((brackets[BRACKET_STATE][k] & OF_IMAGE) == 0) {
                    brackets[BRACKET_STATE][k] |= DEAD;
                }
            }
        }

        private boolean isRaw() {
            int next = at + 1 < to ? text[at + 1] : 0;
            boolean closing = next == '/' && at + 2 < to && Marks.isLetter(text[at + 2]);
            if (!closing && !Marks.isLetter(next) && next != '!' && next != '?') {
                return false;
            }
            for (int p = at + 1; p < to; p++) {
                if (text[p] == '>') {
                    return true;
                }
            }
            return false;
        }

        private void takeReference() {
            int behind = Marks.referenceEnd(text, at, to);
            if (behind == NONE) {
                put('&');
                at++;
                return;
            }
            int number = Marks.referenceNumber(text, at, behind);
            int c = Marks.isCharacter(number) ? number : 65533;
            if (Marks.isForbidden(c)) {
                bad = 2;
                return;
            }
            put(c);
            at = behind;
        }

        private void takeRun(int sign) {
            int behind = rowEnd(at, sign);
            int last = at > from ? text[at - 1] : 10;
            int next = behind < to ? text[behind] : 10;
            boolean whiteAhead = Marks.isWhite(last) || last == 160;
            boolean whiteBehind = Marks.isWhite(next) || next == 160;
            boolean pointAhead = Marks.isPunctuation(last);
            boolean pointBehind = Marks.isPunctuation(next);
            boolean left = !whiteBehind && (!pointBehind || whiteAhead || pointAhead);
            boolean right = !whiteAhead && (!pointAhead || whiteBehind || pointBehind);
            boolean opens = sign == '*' ? left : left && (!right || pointAhead);
            boolean closes = sign == '*' ? right : right && (!left || pointBehind);
            int k = add(TEXT);
            for (int p = at; p < behind; p++) {
                keep(sign);
            }
            items[SIZE][k] = behind - at;
            if (runCount < WAITING_MOST) {
                runs[RUN_ITEM][runCount] = k;
                runs[RUN_SIGN][runCount] = sign;
                runs[RUN_SIZE][runCount] = behind - at;
                runs[RUN_OPENS][runCount] = opens ? 1 : 0;
                runs[RUN_CLOSES][runCount] = closes ? 1 : 0;
                runs[RUN_PASSED][runCount] = 0;
                runCount++;
            }
            at = behind;
        }

        private void takeBracket(int state) {
            int k = add(TEXT);
            if (state == OF_IMAGE) {
                keep('!');
                at++;
            }
            keep('[');
            at++;
            items[SIZE][k] = lettersSize - items[AT][k];
            if (bracketCount > 0) {
                brackets[BRACKET_STATE][bracketCount - 1] |= MET;
            }
            if (bracketCount < WAITING_MOST) {
                brackets[BRACKET_ITEM][bracketCount] = k;
                brackets[BRACKET_AT][bracketCount] = at;
                brackets[BRACKET_RUNS][bracketCount] = runCount;
                brackets[BRACKET_STATE][bracketCount] = state;
                bracketCount++;
            }
        }

        private void closeBracket() {
            int k = bracketCount - 1;
            int found = NONE;
            int behind = NONE;
            if (k >= 0) {
                bracketCount--;
                if ((brackets[BRACKET_STATE][k] & DEAD) == 0) {
                    behind = plainLinkEnd();
                    if (behind == NONE) {
                        found = definitionFor(k);
                        behind = found == NONE ? NONE : labelLinkEnd();
                    }
                }
            }
            if (behind == NONE) {
                put(']');
                at++;
                return;
            }
            int item = brackets[BRACKET_ITEM][k];
            if (found != NONE) {
                setLink(item, trees.definition(found, 2), trees.definition(found, 3),
                    trees.definition(found, 4), trees.definition(found, 5));
            } else {
                int target = trees.keepUnescaped(text, parts[0], parts[1]);
                int title = trees.keepUnescaped(text, parts[2], parts[3]);
                setLink(item, target, title - target, title, trees.poolSize - title);
            }
            pairRuns(brackets[BRACKET_RUNS][k]);
            holdAllBehind(item);
            boolean image = (brackets[BRACKET_STATE][k] & OF_IMAGE) != 0;
            items[KIND][item] = image ? IMAGE : LINK;
            if (!image) {
                killBrackets();
            }
            at = behind;
        }

        private void setLink(int item, int targetAt, int targetSize, int titleAt, int titleSize) {
            items[TARGET_AT][item] = targetAt;
            items[TARGET_SIZE][item] = targetSize;
            items[TITLE_AT][item] = titleAt;
            items[TITLE_SIZE][item] = titleSize;
        }

        private void holdAllBehind(int item) {
            items[HELD][item] = items[NEXT][item];
            items[NEXT][item] = NONE;
            items[SIZE][item] = 0;
            tail = item;
        }

        /** Where ( .. ) behind the ] ends, its parts kept; NONE if it does not stand there. */
        private int plainLinkEnd() {
            if (at + 1 >= to || text[at + 1] != '(') {
                return NONE;
            }
            int target = Marks.gapEnd(text, at + 2, to);
            int targetEnd = Marks.targetEnd(text, target, to);
            boolean pointed = targetEnd != NONE && text[target] == '<';
            if (targetEnd == NONE) {
                targetEnd = target;
            }
            int title = Marks.gapEnd(text, targetEnd, to);
            int titleEnd = title > targetEnd ? Marks.titleEnd(text, title, to) : NONE;
            boolean titled = titleEnd != NONE;
            int close = titled ? Marks.gapEnd(text, titleEnd, to) : title;
            if (close >= to || text[close] != ')') {
                return NONE;
            }
            parts[0] = pointed ? target + 1 : target;
            parts[1] = pointed ? targetEnd - 1 : targetEnd;
            parts[2] = titled ? title + 1 : 0;
            parts[3] = titled ? titleEnd - 1 : 0;
            return close + 1;
        }

        /** The definition for the label behind the ], or for the text in the bracket; or NONE. */
        private int definitionFor(int k) {
            int behind = Marks.labelEnd(text, at + 1, to);
            if (behind != NONE) {
                return trees.labelled(text, at + 2, behind - 1);
            }
            int begin = brackets[BRACKET_AT][k];
            boolean fits = (brackets[BRACKET_STATE][k] & MET) == 0
                && Marks.labelEnd(text, begin - 1, to) == at + 1;
            return fits ? trees.labelled(text, begin, at) : NONE;
        }

        /** Where a link by a label ends: behind the label, behind [], or behind the ]. */
        private int labelLinkEnd() {
            int behind = Marks.labelEnd(text, at + 1, to);
            if (behind != NONE) {
                return behind;
            }
            boolean empty = at + 2 < to && text[at + 1] == '[' && text[at + 2] == ']';
            return empty ? at + 3 : at + 1;
        }

        /** PAIRING of the runs from a number on; they are runs no more then. */
        private void pairRuns(int bottom) {
            for (int k = bottom; k < runCount; k++) {
                int left = runs[RUN_CLOSES][k] == 1 ? items[SIZE][runs[RUN_ITEM][k]] : 0;
                for (int turn = 0; turn < runs[RUN_SIZE][k] && left > 0; turn++) {
                    int opener = openerOf(k, bottom);
                    if (opener == NONE) {
                        break;
                    }
                    pair(opener, k);
                    left = items[SIZE][runs[RUN_ITEM][k]];
                }
            }
            runCount = bottom;
        }

        private int openerOf(int k, int bottom) {
            for (int j = k - 1; j >= bottom; j--) {
                boolean fits = runs[RUN_SIGN][j] == runs[RUN_SIGN][k] && runs[RUN_OPENS][j] == 1
                    && runs[RUN_PASSED][j] == 0 && items[SIZE][runs[RUN_ITEM][j]] > 0;
                if (fits && !clash(j, k)) {
                    return j;
                }
            }
            return NONE;
        }

        private boolean clash(int j, int k) {
            boolean both = runs[RUN_CLOSES][j] == 1 || runs[RUN_OPENS][k] == 1;
            int a = runs[RUN_SIZE][j];
            int b = runs[RUN_SIZE][k];
            return both && (a + b) % 3 == 0 && (a % 3 != 0 || b % 3 != 0);
        }

        private void pair(int opener, int closer) {
            int first = runs[RUN_ITEM][opener];
            int last = runs[RUN_ITEM][closer];
            int n = items[SIZE][first] >= 2 && items[SIZE][last] >= 2 ? 2 : 1;
            items[SIZE][first] -= n;
            items[SIZE][last] -= n;
            for (int j = opener + 1; j < closer; j++) {
                runs[RUN_PASSED][j] = 1;
            }
            int k = make(n == 2 ? STRONG : EMPHASIS);
            int begin = items[NEXT][first];
            int end = items[BEFORE][last];
            if (begin != last && end != NONE) {
                items[HELD][k] = begin;
                items[NEXT][end] = NONE;
            }
            items[NEXT][first] = k;
            items[BEFORE][k] = first;
            items[NEXT][k] = last;
            items[BEFORE][last] = k;
        }

        /** Puts the items into the tree behind their leaf; false if one is too deep. */
        boolean toTree(int c, int leaf) {
            int depth = 1;
            int holder = leaf;
            int item = items[NEXT][0];
            int last = NONE;
            boolean joins = false;
            for (int turn = 0; turn < 3 * ITEMS_MOST; turn++) {
                if (item == NONE) {
                    depth--;
                    if (depth == 0) {
                        break;
                    }
                    item = items[NEXT][levels[0][depth]];
                    holder = levels[1][depth];
                    joins = false;
                    continue;
                }
                int kind = items[KIND][item];
                boolean told = kind == TEXT;
                if (told && items[SIZE][item] == 0) {
                    item = items[NEXT][item];
                    continue;
                }
                if (depth > DEEP_MOST) {
                    return false;
                }
                if (!told || !joins) {
                    last = toNode(c, item, holder);
                }
                if (told || kind == CODING) {
                    keepLetters(c, last, item);
                }
                joins = told;
                if (items[HELD][item] != NONE) {
                    levels[0][depth] = item;
                    levels[1][depth] = holder;
                    depth++;
                    holder = last;
                    item = items[HELD][item];
                } else {
                    item = items[NEXT][item];
                }
            }
            return true;
        }

        private int toNode(int c, int item, int holder) {
            int kind = items[KIND][item];
            int node = trees.add(c, kind, holder);
            if (node != NONE && (trees.isInImage(c, holder) || trees.kindOf(c, holder) == IMAGE)) {
                trees.mark(c, node, Trees.IN_IMAGE);
            }
            trees.set(Trees.AT, c, node, trees.poolSize);
            if (kind == LINK || kind == IMAGE) {
                int self = items[SELF][item];
                // A link to its own text: that comes next, so it stands where the pool goes on.
                trees.set(Trees.AT, c, node, self != 0 ? trees.poolSize : items[TARGET_AT][item]);
                int held = items[HELD][item];
                boolean own = self != 0 && held != NONE;
                trees.set(Trees.SIZE, c, node, own ? items[SIZE][held] : items[TARGET_SIZE][item]);
                trees.set(Trees.MORE_AT, c, node, items[TITLE_AT][item]);
                trees.set(Trees.MORE_SIZE, c, node, items[TITLE_SIZE][item]);
                trees.mark(c, node, self == SELF_MAIL ? Trees.MAIL * Trees.AHEAD : 0);
            }
            return node;
        }

        private void keepLetters(int c, int node, int item) {
            int size = items[SIZE][item];
            trees.keepAll(letters, items[AT][item], items[AT][item] + size);
            if (node != NONE) {
                trees.set(Trees.SIZE, c, node, trees.get(Trees.SIZE, c, node) + size);
            }
        }
    }

    /** What the chapters have in common: headings with their names, strongs with their terms. */
    private static final class Index {
        private static final int MOST = 400;
        private static final int SIGNS_MOST = 60;
        private static final int NAME_ROOM = 66;
        private static final int CHAPTER = 0;
        private static final int NODE = 1;
        private static final int LEVEL = 2;
        private static final int PARENT = 3;
        private static final int NAME_SIZE = 4;
        private static final int TERM_SIZE = 1;
        private static final int ALIKE = 2;
        private static final String SECTION = "section";
        private static final String OWN_FILES = "nav.xhtml index.xhtml ";
        private static final String CHAPTER_FILES =
            "c1.xhtml c2.xhtml c3.xhtml c4.xhtml c5.xhtml c6.xhtml c7.xhtml c8.xhtml c9.xhtml c10.xhtml c11.xhtml c12.xhtml ";

        final Trees trees;
        int headings;
        int strongs;
        int terms;
        int badChapter;
        int badLeaf;
        private final int[][] heads = new int[5][MOST];
        private final int[] names = new int[MOST * NAME_ROOM];
        private final int[][] strong = new int[3][MOST];
        private final int[] termSigns = new int[MOST * SIGNS_MOST];
        private final int[] order = new int[MOST];
        private final int[] used = new int[MOST + 2];
        private final int[] plain = new int[4 * CHAPTER_MOST + 8];

        Index(Trees kept) {
            trees = kept;
        }

        /** Finds headings and strongs: NONE, or the chapter with the first that is too many. */
        int collect(int chapters) {
            headings = 0;
            strongs = 0;
            terms = 0;
            for (int k = 0; k < used.length; k++) {
                used[k] = 0;
            }
            for (int c = 0; c < chapters; c++) {
                for (int k = 0; k < trees.counts[c]; k++) {
                    int kind = trees.kindOf(c, k);
                    boolean counts = kind == STRONG && !trees.isInImage(c, k);
                    if (kind == HEADING && headings >= MOST || counts && strongs >= MOST) {
                        return c;
                    }
                    if (kind == HEADING) {
                        addHeading(c, k);
                    } else if (counts) {
                        addStrong(c, k);
                    } else if (kind == STRONG) {
                        trees.set(Trees.VALUE, c, k, NONE);
                    }
                }
            }
            return NONE;
        }

        private void addHeading(int c, int k) {
            int h = headings;
            heads[CHAPTER][h] = c;
            heads[NODE][h] = k;
            heads[LEVEL][h] = trees.get(Trees.VALUE, c, k);
            int parent = h - 1;
            while (parent >= 0 && heads[LEVEL][parent] >= heads[LEVEL][h]) {
                parent--;
            }
            heads[PARENT][h] = parent >= 0 ? parent : NONE;
            int size = trees.plain(c, k, plain);
            int n = 0;
            for (int p = 0; p < size && n < SIGNS_MOST; p++) {
                int sign = nameSign(plain[p]);
                if (sign != NONE) {
                    names[h * NAME_ROOM + n] = sign;
                    n++;
                }
            }
            if (n == 0) {
                n = SECTION.length();
                for (int p = 0; p < n; p++) {
                    names[h * NAME_ROOM + p] = SECTION.charAt(p);
                }
            }
            heads[NAME_SIZE][h] = n;
            makeNameNew(h);
            headings++;
        }

        /** What a character becomes in a NAME, or NONE. */
        private static int nameSign(int c) {
            int sign = Marks.small(c);
            if (sign == 32 || sign == 10) {
                return '-';
            }
            boolean stays = Marks.isLetter(sign) || Marks.isDigit(sign) || sign == '-' || sign == '_' || sign > 127;
            return stays ? sign : NONE;
        }

        /** If an earlier heading has the name, the least free number comes behind it. */
        private void makeNameNew(int h) {
            int size = heads[NAME_SIZE][h];
            boolean taken = false;
            for (int j = 0; j < h; j++) {
                int number = numberBehind(j, h, size);
                taken = taken || number == 0;
                if (number > 0) {
                    used[number] = h + 1;
                }
            }
            if (!taken) {
                return;
            }
            int free = 1;
            while (free < MOST && used[free] == h + 1) {
                free++;
            }
            int at = h * NAME_ROOM + size;
            names[at] = '-';
            at++;
            for (int unit = 100; unit > 0; unit /= 10) {
                if (free >= unit) {
                    names[at] = '0' + free / unit % 10;
                    at++;
                }
            }
            heads[NAME_SIZE][h] = at - h * NAME_ROOM;
        }

        /** 0 if heading j has the name of h, n if it has that with - and n behind; else NONE. */
        private int numberBehind(int j, int h, int size) {
            int size2 = heads[NAME_SIZE][j];
            if (size2 < size || size2 == size + 1 || size2 > size + 4) {
                return NONE;
            }
            for (int p = 0; p < size; p++) {
                if (names[j * NAME_ROOM + p] != names[h * NAME_ROOM + p]) {
                    return NONE;
                }
            }
            if (size2 == size) {
                return 0;
            }
            int at = j * NAME_ROOM + size;
            int number = 0;
            for (int p = at + 1; p < j * NAME_ROOM + size2; p++) {
                if (!Marks.isDigit(names[p]) || p == at + 1 && names[p] == '0') {
                    return NONE;
                }
                number = number * 10 + names[p] - '0';
            }
            return names[at] == '-' && number <= MOST ? number : NONE;
        }

        private void addStrong(int c, int k) {
            int s = strongs;
            strong[CHAPTER][s] = c;
            trees.set(Trees.VALUE, c, k, s);
            int size = trees.plain(c, k, plain);
            int n = 0;
            boolean white = false;
            for (int p = 0; p < size && n < SIGNS_MOST; p++) {
                if (Marks.isWhite(plain[p])) {
                    white = n > 0;
                    continue;
                }
                if (white) {
                    termSigns[s * SIGNS_MOST + n] = 32;
                    n++;
                    white = false;
                }
                if (n < SIGNS_MOST) {
                    termSigns[s * SIGNS_MOST + n] = plain[p];
                    n++;
                }
            }
            strong[TERM_SIZE][s] = n;
            strong[ALIKE][s] = s;
            strongs++;
        }

        /** THE INDEX: each different term once, by its first strong, in order. */
        void sortTerms() {
            for (int s = 0; s < strongs; s++) {
                if (strong[TERM_SIZE][s] == 0) {
                    continue;
                }
                int place = terms;
                while (place > 0 && compareTerms(order[place - 1], s) > 0) {
                    place--;
                }
                if (place > 0 && compareTerms(order[place - 1], s) == 0) {
                    strong[ALIKE][s] = order[place - 1];
                    continue;
                }
                for (int k = terms; k > place; k--) {
                    order[k] = order[k - 1];
                }
                order[place] = s;
                terms++;
            }
        }

        private int compareTerms(int a, int b) {
            int byForm = 0;
            int sizeA = strong[TERM_SIZE][a];
            int sizeB = strong[TERM_SIZE][b];
            for (int p = 0; p < sizeA && p < sizeB; p++) {
                int c = termSigns[a * SIGNS_MOST + p];
                int d = termSigns[b * SIGNS_MOST + p];
                if (Marks.small(c) != Marks.small(d)) {
                    return Integer.compare(Marks.small(c), Marks.small(d));
                }
                byForm = byForm == 0 ? Integer.compare(c, d) : byForm;
            }
            return sizeA != sizeB ? Integer.compare(sizeA, sizeB) : byForm;
        }

        /** Looks at all links between chapters; whether each has its heading. */
        boolean checkLinks(int chapters) {
            for (int c = 0; c < chapters; c++) {
                int leaf = -1;
                for (int k = 0; k < trees.counts[c]; k++) {
                    int kind = trees.kindOf(c, k);
                    leaf += kind == PARAGRAPH || kind == HEADING ? 1 : 0;
                    if (kind == LINK && !trees.isInImage(c, k) && !leadsOn(c, k, chapters)) {
                        badChapter = c;
                        badLeaf = leaf;
                        return false;
                    }
                }
            }
            return true;
        }

        private boolean leadsOn(int c, int k, int chapters) {
            int at = trees.get(Trees.AT, c, k);
            int end = at + trees.get(Trees.SIZE, c, k);
            int hash = at;
            while (hash < end && trees.pool[hash] != '#') {
                hash++;
            }
            if (hash == end || trees.aheadOf(c, k) != 0) {
                return true;
            }
            int file = Marks.wordNumber(CHAPTER_FILES, trees.pool, at, hash);
            boolean told = file >= 0 && file < chapters;
            boolean own = Marks.wordNumber(OWN_FILES, trees.pool, at, hash) != NONE;
            if (hash > at && !told && !own) {
                return true;
            }
            int h = own ? NONE : headingNamed(hash + 1, end);
            if (h == NONE || told && heads[CHAPTER][h] != file) {
                return false;
            }
            if (hash == at && heads[CHAPTER][h] != c) {
                trees.mark(c, k, (heads[CHAPTER][h] + 1) * Trees.AHEAD);
            }
            return true;
        }

        private int headingNamed(int from, int to) {
            for (int h = 0; h < headings; h++) {
                int same = 0;
                while (same < to - from && heads[NAME_SIZE][h] == to - from
                    && names[h * NAME_ROOM + same] == trees.pool[from + same]) {
                    same++;
                }
                if (same == to - from && heads[NAME_SIZE][h] == to - from) {
                    return h;
                }
            }
            return NONE;
        }

        int headingTold(int h, int what) {
            if (h < 0 || h >= headings) {
                return NONE;
            }
            switch (what) {
                case 0:
                    return heads[CHAPTER][h];
                case 1:
                    return heads[LEVEL][h];
                case 2:
                    return heads[PARENT][h];
                case 3:
                    return heads[NODE][h];
                case 4:
                    return heads[NAME_SIZE][h];
                default:
                    return NONE;
            }
        }

        int nameLetter(int h, int i) {
            boolean there = h >= 0 && h < headings && i >= 0 && i < heads[NAME_SIZE][h];
            return there ? names[h * NAME_ROOM + i] : NONE;
        }

        /** The number of the strong with a term that comes at a place among those with it; or NONE. */
        int strongOf(int term, int place) {
            int met = 0;
            for (int s = order[term]; s < strongs; s++) {
                if (strong[TERM_SIZE][s] > 0 && strong[ALIKE][s] == order[term]) {
                    if (met == place) {
                        return s;
                    }
                    met++;
                }
            }
            return NONE;
        }

        int chapterOf(int s) {
            return strong[CHAPTER][s];
        }

        int termTold(int k, int what) {
            if (k < 0 || k >= terms || what < 0) {
                return NONE;
            }
            if (what == 0) {
                return strong[TERM_SIZE][order[k]];
            }
            if (what >= 2) {
                return strongOf(k, what - 2);
            }
            int times = 0;
            for (int s = 0; s < strongs; s++) {
                times += strong[TERM_SIZE][s] > 0 && strong[ALIKE][s] == order[k] ? 1 : 0;
            }
            return times;
        }

        int termLetter(int k, int i) {
            boolean there = k >= 0 && k < terms && i >= 0 && i < strong[TERM_SIZE][order[k]];
            return there ? termSigns[order[k] * SIGNS_MOST + i] : NONE;
        }
    }

    /** Writes the book's files, and these into the archive. */
    private static final class Writer {
        private static final String HTML_HEAD = "\n<html><head><title>";
        private static final String HTML_BODY = "</title></head><body>\n";
        private static final String HTML_TAIL = "</body></html>\n";
        private static final String CONTAINER =
            "\n<container version=\"1.0\"><rootfiles><rootfile full-path=\"OEBPS/content.opf\"/></rootfiles></container>\n";
        private static final int FILES = 18;
        private static final int OWN_AHEAD = 4;
        private static final int LOCAL_AT = 0;
        private static final int CRC = 1;
        private static final int PACKED = 2;
        private static final int METHOD = 3;

        int fileCount;
        private final Trees trees;
        private final Index index;
        private final int[] files = new int[FILES_MOST];
        private final int[] starts = new int[FILES + 1];
        private final int[][] zipped = new int[4][FILES];
        private final int[] packed = new int[BYTES_MOST];
        private final int[] plain = new int[4 * CHAPTER_MOST + 8];
        private final int[] stack = new int[64];
        private int depth;
        private int[] into;
        private int used;
        private int limit;
        private boolean over;

        Writer(Index kept) {
            index = kept;
            trees = kept.trees;
        }

        private void put(int b) {
            if (used < limit) {
                into[used] = b;
                used++;
            } else {
                over = true;
            }
        }

        private void text(String s) {
            for (int k = 0; k < s.length() && !over; k++) {
                over = used >= limit;
                if (!over) {
                    into[used] = s.charAt(k);
                    used++;
                }
            }
        }

        private void number(int n) {
            boolean begun = false;
            for (int unit = 1000000000; unit > 0; unit /= 10) {
                int digit = n / unit % 10;
                begun = begun || digit > 0 || unit == 1;
                if (begun) {
                    put('0' + digit);
                }
            }
        }

        /** A character as it is told in a file: with & < > " told otherwise, in UTF-8. */
        private void character(int c) {
            if (c == '&') {
                text("&amp;");
            } else if (c == '<') {
                text("&lt;");
            } else if (c == '>') {
                text("&gt;");
            } else if (c == '"') {
                text("&quot;");
            } else if (c < 128) {
                put(c);
            } else {
                int more = c < 2048 ? 1 : c < 65536 ? 2 : 3;
                put((more == 1 ? 192 : more == 2 ? 224 : 240) | c >> 6 * more);
                for (int k = more - 1; k >= 0; k--) {
                    put(128 | c >> 6 * k & 63);
                }
            }
        }

        private void letters(int[] t, int from, int to) {
            for (int p = from; p < to && !over; p++) {
                character(t[p]);
            }
        }

        private void title() {
            if (index.headings == 0) {
                text("Untitled");
            } else {
                letters(plain, 0, trees.plain(index.headingTold(0, 0), index.headingTold(0, 3), plain));
            }
        }

        private void head() {
            text(XML_LINE);
            text(HTML_HEAD);
            title();
            text(HTML_BODY);
        }

        /** Writes all files: NONE, or the first that is too long. */
        int writeFiles(int chapters) {
            fileCount = OWN_AHEAD + chapters + 1;
            into = files;
            used = 0;
            over = false;
            for (int f = 0; f < fileCount; f++) {
                starts[f] = used;
                limit = Math.min(used + BYTES_MOST, FILES_MOST);
                switch (f) {
                    case 0:
                        text("application/epub+zip");
                        break;
                    case 1:
                        text(XML_LINE);
                        text(CONTAINER);
                        break;
                    case 2:
                        packageFile();
                        break;
                    case 3:
                        contentsFile();
                        break;
                    default:
                        if (f == fileCount - 1) {
                            indexFile();
                        } else {
                            chapterFile(f - OWN_AHEAD);
                        }
                        break;
                }
                if (over) {
                    return f;
                }
            }
            starts[fileCount] = used;
            return NONE;
        }

        /** A file's name; its own one alone, or that with its folder. */
        private void fileName(int f, boolean whole) {
            if (f > 1 && whole) {
                text("OEBPS/");
            }
            if (f == 0) {
                text("mimetype");
            } else if (f == 1) {
                text("META-INF/container.xml");
            } else if (f == 2) {
                text("content.opf");
            } else if (f == 3) {
                text("nav.xhtml");
            } else if (f == fileCount - 1) {
                text("index.xhtml");
            } else {
                text("c");
                number(f - OWN_AHEAD + 1);
                text(".xhtml");
            }
        }

        private void packageFile() {
            text(XML_LINE);
            text("\n<package version=\"3.0\"><metadata><title>");
            title();
            text("</title></metadata><manifest>\n");
            for (int f = 3; f < fileCount; f++) {
                text("<item id=\"f");
                number(f - 3);
                text("\" href=\"");
                fileName(f, false);
                text("\"/>\n");
            }
            text("</manifest><spine>\n");
            for (int f = 3; f < fileCount; f++) {
                text("<itemref idref=\"f");
                number(f - 3);
                text("\"/>\n");
            }
            text("</spine></package>\n");
        }

        private void contentsFile() {
            head();
            text("<h1>Contents</h1>\n");
            // Headings come with those whose parent they are just behind them: levels are
            // closed until the one is open that the next heading belongs to.
            depth = 0;
            for (int h = 0; h < index.headings && !over; h++) {
                int parent = index.headingTold(h, 2);
                if (depth == 0) {
                    text("<ul>\n");
                } else if (parent == stack[depth - 1]) {
                    text("\n<ul>\n");
                } else {
                    closeLevels(parent);
                }
                contentsEntry(h);
                stack[depth] = h;
                depth++;
            }
            if (depth > 0) {
                closeLevels(NONE);
                text("</ul>\n");
            }
            text(HTML_TAIL);
        }

        private void closeLevels(int parent) {
            text("</li>\n");
            depth--;
            for (int turn = depth; turn > 0 && stack[depth - 1] != parent; turn--) {
                text("</ul>\n</li>\n");
                depth--;
            }
        }

        private void contentsEntry(int h) {
            int c = index.headingTold(h, 0);
            text("<li><a href=\"");
            fileName(c + OWN_AHEAD, false);
            text("#");
            headingName(h);
            text("\">");
            letters(plain, 0, trees.plain(c, index.headingTold(h, 3), plain));
            text("</a>");
        }

        private void headingName(int h) {
            int size = index.headingTold(h, 4);
            for (int i = 0; i < size; i++) {
                character(index.nameLetter(h, i));
            }
        }

        private void indexFile() {
            head();
            text("<h1>Index</h1>\n");
            if (index.terms > 0) {
                text("<ul>\n");
            }
            for (int k = 0; k < index.terms && !over; k++) {
                text("<li>");
                int size = index.termTold(k, 0);
                for (int i = 0; i < size; i++) {
                    character(index.termLetter(k, i));
                }
                termPlaces(k);
                text("</li>\n");
            }
            if (index.terms > 0) {
                text("</ul>\n");
            }
            text(HTML_TAIL);
        }

        private void termPlaces(int k) {
            int times = index.termTold(k, 1);
            for (int n = 0; n < times; n++) {
                int s = index.strongOf(k, n);
                int c = index.chapterOf(s);
                text(n == 0 ? " <a href=\"" : ", <a href=\"");
                fileName(c + OWN_AHEAD, false);
                text("#t:");
                number(s);
                text("\">");
                number(c + 1);
                text("</a>");
            }
        }

        private void chapterFile(int c) {
            head();
            depth = 1;
            stack[0] = 0;
            int k = 1;
            while (k < trees.counts[c] && !over) {
                int holder = trees.get(Trees.HOLDER, c, k);
                closeDownTo(c, holder);
                openNode(c, k);
                if (depth < stack.length) {
                    stack[depth] = k;
                    depth++;
                }
                boolean image = trees.kindOf(c, k) == IMAGE;
                int node = k;
                k++;
                while (image && k < trees.counts[c] && trees.get(Trees.HOLDER, c, k) >= node) {
                    k++;
                }
            }
            closeDownTo(c, 0);
            text(HTML_TAIL);
        }

        private void closeDownTo(int c, int holder) {
            while (depth > 1 && stack[depth - 1] != holder) {
                depth--;
                closeNode(c, stack[depth]);
            }
        }

        private boolean isTight(int c, int k) {
            int item = trees.get(Trees.HOLDER, c, k);
            if (item == NONE || trees.kindOf(c, item) != ITEM) {
                return false;
            }
            return !trees.isLoose(c, trees.get(Trees.HOLDER, c, item));
        }

        private void openNode(int c, int k) {
            switch (trees.kindOf(c, k)) {
                case QUOTE:
                    text("<blockquote>\n");
                    break;
                case LIST:
                    openList(c, k);
                    break;
                case ITEM:
                    text("<li>");
                    break;
                case PARAGRAPH:
                    text(isTight(c, k) ? "" : "<p>");
                    break;
                case HEADING:
                    openHeading(c, k);
                    break;
                case RULE:
                    text("<hr/>\n");
                    break;
                case CODE:
                    codeBlock(c, k);
                    break;
                case TEXT:
                    nodeText(c, k);
                    break;
                case SOFT:
                    text("\n");
                    break;
                case HARD:
                    text("<br/>\n");
                    break;
                case CODING:
                    text("<code>");
                    nodeText(c, k);
                    break;
                case EMPHASIS:
                    text("<em>");
                    break;
                case STRONG:
                    text("<strong id=\"t:");
                    number(trees.get(Trees.VALUE, c, k));
                    text("\">");
                    break;
                default:
                    openLink(c, k);
                    break;
            }
        }

        private void closeNode(int c, int k) {
            switch (trees.kindOf(c, k)) {
                case QUOTE:
                    text("</blockquote>\n");
                    break;
                case LIST:
                    text(trees.isNumbered(c, k) ? "</ol>\n" : "</ul>\n");
                    break;
                case ITEM:
                    text("</li>\n");
                    break;
                case PARAGRAPH:
                    text(isTight(c, k) ? "\n" : "</p>\n");
                    break;
                case HEADING:
                    text("</h");
                    number(trees.get(Trees.VALUE, c, k));
                    text(">\n");
                    break;
                case CODING:
                    text("</code>");
                    break;
                case EMPHASIS:
                    text("</em>");
                    break;
                case STRONG:
                    text("</strong>");
                    break;
                case LINK:
                    text("</a>");
                    break;
                default:
                    break;
            }
        }

        private void nodeText(int c, int k) {
            int at = trees.get(Trees.AT, c, k);
            letters(trees.pool, at, at + trees.get(Trees.SIZE, c, k));
        }

        private void openList(int c, int k) {
            int number = trees.get(Trees.VALUE, c, k);
            if (!trees.isNumbered(c, k)) {
                text("<ul>\n");
            } else if (number == 1) {
                text("<ol>\n");
            } else {
                text("<ol start=\"");
                number(number);
                text("\">\n");
            }
        }

        private void openHeading(int c, int k) {
            text("<h");
            number(trees.get(Trees.VALUE, c, k));
            text(" id=\"");
            for (int h = 0; h < index.headings; h++) {
                if (index.headingTold(h, 0) == c && index.headingTold(h, 3) == k) {
                    headingName(h);
                    break;
                }
            }
            text("\">");
        }

        private void codeBlock(int c, int k) {
            int at = trees.get(Trees.MORE_AT, c, k);
            int end = at + trees.get(Trees.MORE_SIZE, c, k);
            text("<pre><code");
            if (end > at) {
                int space = at;
                while (space < end && trees.pool[space] != 32) {
                    space++;
                }
                text(" class=\"language-");
                letters(plain, 0, Marks.unescape(trees.pool, at, space, plain, 0));
                text("\"");
            }
            text(">");
            int from = trees.get(Trees.AT, c, k);
            letters(trees.pool, from, from + trees.get(Trees.SIZE, c, k));
            text("</code></pre>\n");
        }

        private void openLink(int c, int k) {
            boolean image = trees.kindOf(c, k) == IMAGE;
            text(image ? "<img src=\"" : "<a href=\"");
            int ahead = trees.aheadOf(c, k);
            int size = Trees.aheadSize(ahead);
            for (int i = 0; i < size; i++) {
                put(Trees.aheadLetter(ahead, i));
            }
            int from = trees.get(Trees.AT, c, k);
            letters(trees.pool, from, from + trees.get(Trees.SIZE, c, k));
            if (image) {
                text("\" alt=\"");
                letters(plain, 0, trees.plain(c, k, plain));
            }
            int more = trees.get(Trees.MORE_SIZE, c, k);
            if (more > 0) {
                text("\" title=\"");
                int at = trees.get(Trees.MORE_AT, c, k);
                letters(trees.pool, at, at + more);
            }
            text(image ? "\"/>" : "\">");
        }

        private void two(int n) {
            put(n & 255);
            put(n >> 8 & 255);
        }

        private void four(int n) {
            two(n);
            two(n >> 16);
        }

        private int nameSize(int f) {
            boolean eleven = f == 2 || f == fileCount - 1;
            int own = eleven ? 11 : f == 3 || f - OWN_AHEAD >= 9 ? 9 : 8;
            return f == 1 ? 22 : f == 0 ? own : own + 6;
        }

        private int fileSize(int f) {
            return starts[f + 1] - starts[f];
        }

        /** Writes the archive: how many bytes it has, NONE if they are too many. */
        int writeArchive(Packer packer, int[] target) {
            into = target;
            used = 0;
            limit = BYTES_MOST;
            over = false;
            for (int f = 0; f < fileCount && !over; f++) {
                int size = fileSize(f);
                int shorter = f == 0 ? size : packer.squeeze(files, starts[f], starts[f + 1], packed, size);
                boolean packs = shorter < size;
                zipped[LOCAL_AT][f] = used;
                zipped[CRC][f] = Marks.crcOf(files, starts[f], starts[f + 1]);
                zipped[PACKED][f] = packs ? shorter : size;
                zipped[METHOD][f] = packs ? 8 : 0;
                text("PK\u0003\u0004");
                commonHeader(f);
                fileName(f, true);
                for (int p = 0; p < zipped[PACKED][f]; p++) {
                    put(packs ? packed[p] : files[starts[f] + p]);
                }
            }
            int central = used;
            for (int f = 0; f < fileCount && !over; f++) {
                text("PK\u0001\u0002");
                two(20);
                commonHeader(f);
                two(0);
                two(0);
                two(0);
                four(0);
                four(zipped[LOCAL_AT][f]);
                fileName(f, true);
            }
            int size = used - central;
            text("PK\u0005\u0006");
            four(0);
            two(fileCount);
            two(fileCount);
            four(size);
            four(central);
            two(0);
            return over ? NONE : used;
        }

        /** What both headers of a file have, from the first 20 on up to the two 0 behind the name's length. */
        private void commonHeader(int f) {
            two(20);
            two(0);
            two(zipped[METHOD][f]);
            two(0);
            two(33);
            four(zipped[CRC][f]);
            four(zipped[PACKED][f]);
            four(fileSize(f));
            two(nameSize(f));
            two(0);
        }
    }

    /** PACKING. */
    private static final class Packer {
        private static final int WINDOW = 8192;
        private static final int PARTS_MOST = 2048;
        private static final int LITERALS = 286;
        private static final int DISTANCES = 30;
        private static final int ALPHABET = 19;
        private static final int STRIDE = 576;
        private static final int[] SIZE_BASES = {3, 4, 5, 6, 7, 8, 9, 10, 11, 13, 15, 17, 19, 23, 27, 31,
            35, 43, 51, 59, 67, 83, 99, 115, 131, 163, 195, 227, 258};
        private static final int[] SIZE_BITS = {0, 0, 0, 0, 0, 0, 0, 0, 1, 1, 1, 1, 2, 2, 2, 2,
            3, 3, 3, 3, 4, 4, 4, 4, 5, 5, 5, 5, 0};
        private static final int[] GAP_BASES = {1, 2, 3, 4, 5, 7, 9, 13, 17, 25, 33, 49, 65, 97, 129, 193,
            257, 385, 513, 769, 1025, 1537, 2049, 3073, 4097, 6145, 8193, 12289, 16385, 24577};
        private static final int[] GAP_BITS = {0, 0, 0, 0, 1, 1, 2, 2, 3, 3, 4, 4, 5, 5, 6, 6,
            7, 7, 8, 8, 9, 9, 10, 10, 11, 11, 12, 12, 13, 13};
        private static final int[] ORDER = {16, 17, 18, 0, 8, 7, 9, 6, 10, 5, 11, 4, 12, 3, 13, 2, 14, 1, 15};

        private final int[] heads = new int[4096];
        private final int[] before = new int[BYTES_MOST];
        private int[] source;
        private int from;
        private int to;
        private int added;
        private int gapFound;
        // A part: its size and how far ahead it begins, or a byte and 0.
        private final int[][] parts = new int[2][PARTS_MOST];
        private int partCount;
        private int[] into;
        private int limit;
        private int bits;
        private final int[][] often = new int[3][288];
        private final int[][] lengths = new int[3][288];
        private final int[][] codes = new int[3][288];
        private final int[] row = new int[LITERALS + DISTANCES];
        private final int[] symbols = new int[288];
        private final int[][] sums = new int[2][STRIDE];
        private final int[] single = new int[15 * STRIDE];

        /** Packs bytes into a row: how many they are then (beyond the limit they are only counted). */
        int squeeze(int[] bytes, int begin, int behind, int[] target, int most) {
            source = bytes;
            from = begin;
            to = behind;
            added = begin;
            into = target;
            limit = most;
            bits = 0;
            partCount = 0;
            for (int k = 0; k < heads.length; k++) {
                heads[k] = 0;
            }
            int at = begin;
            int blockAt = begin;
            int size = longest(at);
            int gap = gapFound;
            for (int turn = begin; turn < behind && at < behind; turn++) {
                int nextSize = size > 0 ? longest(at + 1) : 0;
                boolean match = size > 0 && nextSize <= size;
                parts[0][partCount] = match ? size : source[at];
                parts[1][partCount] = match ? gap : 0;
                partCount++;
                at += match ? size : 1;
                if (match || size == 0) {
                    nextSize = longest(at);
                }
                size = nextSize;
                gap = gapFound;
                if (partCount == PARTS_MOST && at < behind) {
                    writeBlock(blockAt, at, 0);
                    blockAt = at;
                }
            }
            writeBlock(blockAt, at, 1);
            return (bits + 7) / 8;
        }

        private int hash(int at) {
            return (source[at] << 8 ^ source[at + 1] << 4 ^ source[at + 2]) & 4095;
        }

        /** The size of the MATCH at a place, its distance in gapFound; 0 without one. */
        private int longest(int at) {
            gapFound = 0;
            int most = Math.min(258, to - at);
            if (most < 3) {
                return 0;
            }
            for (int p = added; p < at; p++) {
                int h = hash(p);
                before[p - from] = heads[h];
                heads[h] = p - from + 1;
            }
            added = Math.max(added, at);
            int best = 2;
            int p = heads[hash(at)] - 1;
            for (int turn = 0; turn < WINDOW && p >= 0 && at - from - p <= WINDOW && best < most; turn++) {
                int other = from + p;
                if (source[other + best] == source[at + best]) {
                    int n = 0;
                    while (n < most && source[other + n] == source[at + n]) {
                        n++;
                    }
                    if (n > best) {
                        best = n;
                        gapFound = at - other;
                    }
                }
                p = before[p] - 1;
            }
            return best > 2 ? best : 0;
        }

        private static int codeOf(int[] bases, int value) {
            int k = bases.length - 1;
            while (k > 0 && bases[k] > value) {
                k--;
            }
            return k;
        }

        /** Counts how often the symbols come: how many bits stand behind their codes. */
        private int countParts() {
            for (int k = 0; k < 288; k++) {
                often[0][k] = 0;
                often[1][k] = 0;
                often[2][k] = 0;
            }
            often[0][256] = 1;
            int extra = 0;
            for (int k = 0; k < partCount; k++) {
                if (parts[1][k] == 0) {
                    often[0][parts[0][k]]++;
                    continue;
                }
                int s = codeOf(SIZE_BASES, parts[0][k]);
                int d = codeOf(GAP_BASES, parts[1][k]);
                often[0][257 + s]++;
                often[1][d]++;
                extra += SIZE_BITS[s] + GAP_BITS[d];
            }
            return extra;
        }

        private int costOf(int alphabet) {
            int cost = 0;
            for (int k = 0; k < 288; k++) {
                cost += often[alphabet][k] * lengths[alphabet][k];
            }
            return cost;
        }

        private void setFixed() {
            for (int k = 0; k < 288; k++) {
                lengths[0][k] = k < 144 ? 8 : k < 256 ? 9 : k < 280 ? 7 : 8;
                lengths[1][k] = k < 32 ? 5 : 0;
            }
        }

        private void writeBlock(int begin, int behind, int last) {
            int extra = countParts();
            int n = behind - begin;
            int stored = 3 + (8 - (bits + 3 & 7) & 7) + 32 + 8 * n;
            setFixed();
            int fixed = 3 + costOf(0) + costOf(1) + extra;
            int literals = 257;
            int distances = 1;
            makeLengths(0, LITERALS, 15);
            makeLengths(1, DISTANCES, 15);
            if (often[1][0] == 0 && costOf(1) == 0) {
                lengths[1][0] = 1;
            }
            for (int k = 0; k < LITERALS; k++) {
                literals = lengths[0][k] > 0 ? Math.max(literals, k + 1) : literals;
                distances = lengths[1][k] > 0 ? Math.max(distances, k + 1) : distances;
            }
            int rowSize = fillRow(literals, distances);
            int told = tellRow(rowSize, false);
            makeLengths(2, ALPHABET, 7);
            int ordered = 4;
            for (int k = 0; k < ALPHABET; k++) {
                ordered = lengths[2][ORDER[k]] > 0 ? Math.max(ordered, k + 1) : ordered;
            }
            int dynamic = 17 + 3 * ordered + told + costOf(2) + costOf(0) + costOf(1) + extra;
            if (stored <= fixed && stored <= dynamic) {
                writeStored(begin, n, last);
            } else if (fixed <= dynamic) {
                putBits(last | 2, 3);
                setFixed();
                writeParts();
            } else {
                putBits(last | 4, 3);
                putBits(literals - 257, 5);
                putBits(distances - 1, 5);
                putBits(ordered - 4, 4);
                for (int k = 0; k < ordered; k++) {
                    putBits(lengths[2][ORDER[k]], 3);
                }
                makeCodes(2);
                tellRow(rowSize, true);
                writeParts();
            }
            partCount = 0;
        }

        private int fillRow(int literals, int distances) {
            System.arraycopy(lengths[0], 0, row, 0, literals);
            System.arraycopy(lengths[1], 0, row, literals, distances);
            return literals + distances;
        }

        /** The row of lengths by the alphabet 0 .. 18, counted or written: how many bits behind the codes. */
        private int tellRow(int rowSize, boolean write) {
            int extra = 0;
            int at = 0;
            while (at < rowSize) {
                int noughts = alike(at, 0, rowSize, 138);
                int same = at > 0 ? alike(at, row[at - 1], rowSize, 6) : 0;
                int symbol = noughts > 10 ? 18 : noughts > 2 ? 17 : same > 2 ? 16 : row[at];
                int n = symbol < 16 ? 1 : symbol == 16 ? same : noughts;
                int more = symbol < 16 ? 0 : symbol == 16 ? 2 : symbol == 17 ? 3 : 7;
                if (write) {
                    putBits(codes[2][symbol], lengths[2][symbol]);
                    putBits(symbol == 18 ? n - 11 : n - 3, more);
                } else {
                    often[2][symbol]++;
                }
                extra += more;
                at += n;
            }
            return extra;
        }

        private int alike(int at, int value, int rowSize, int most) {
            int n = 0;
            while (at + n < rowSize && n < most && row[at + n] == value) {
                n++;
            }
            return n;
        }

        private int sortSymbols(int alphabet, int count) {
            int n = 0;
            for (int s = 0; s < count; s++) {
                lengths[alphabet][s] = 0;
                if (often[alphabet][s] == 0) {
                    continue;
                }
                int p = n;
                while (p > 0 && often[alphabet][symbols[p - 1]] > often[alphabet][s]) {
                    symbols[p] = symbols[p - 1];
                    p--;
                }
                symbols[p] = s;
                n++;
            }
            for (int s = count; s < 288; s++) {
                lengths[alphabet][s] = 0;
            }
            return n;
        }

        /** LENGTHS with a limit. */
        private void makeLengths(int alphabet, int count, int most) {
            int n = sortSymbols(alphabet, count);
            if (n == 0) {
                return;
            }
            if (n == 1) {
                lengths[alphabet][symbols[0]] = 1;
                return;
            }
            for (int k = 0; k < n; k++) {
                sums[0][k] = often[alphabet][symbols[k]];
                single[k] = 1;
            }
            int size = n;
            for (int level = 1; level < most; level++) {
                size = mergePairs(alphabet, level, size, n);
            }
            // Of the last row's first 2 n - 2 those of S are the first symbols, and the pairs
            // stand for the first ones of the row ahead.
            int need = 2 * n - 2;
            for (int level = most - 1; level >= 0; level--) {
                int own = 0;
                for (int k = 0; k < need && k < STRIDE; k++) {
                    own += single[level * STRIDE + k];
                }
                for (int k = 0; k < own && k < n; k++) {
                    lengths[alphabet][symbols[k]]++;
                }
                need = 2 * (need - own);
            }
        }

        private int mergePairs(int alphabet, int level, int size, int n) {
            int[] old = sums[(level + 1) % 2];
            int[] fresh = sums[level % 2];
            int pairs = size / 2;
            int s = 0;
            int p = 0;
            while (s + p < n + pairs) {
                int sum = p < pairs ? old[2 * p] + old[2 * p + 1] : 0;
                boolean own = p >= pairs || s < n && often[alphabet][symbols[s]] <= sum;
                fresh[s + p] = own ? often[alphabet][symbols[s]] : sum;
                single[level * STRIDE + s + p] = own ? 1 : 0;
                s += own ? 1 : 0;
                p += own ? 0 : 1;
            }
            return n + pairs;
        }

        /** Codes by their lengths, turned round, since they are told from their highest bit on. */
        private void makeCodes(int alphabet) {
            int code = 0;
            for (int length = 1; length < 16; length++) {
                for (int s = 0; s < 288; s++) {
                    if (lengths[alphabet][s] == length) {
                        codes[alphabet][s] = turned(code, length);
                        code++;
                    }
                }
                code <<= 1;
            }
        }

        private static int turned(int code, int length) {
            int other = 0;
            for (int k = 0; k < length; k++) {
                other = other << 1 | code >> k & 1;
            }
            return other;
        }

        private void putBits(int value, int n) {
            for (int k = 0; k < n; k++) {
                int at = bits >> 3;
                if (at < limit) {
                    int old = (bits & 7) == 0 ? 0 : into[at];
                    into[at] = old | (value >> k & 1) << (bits & 7);
                }
                bits++;
            }
        }

        private void writeStored(int begin, int n, int last) {
            putBits(last, 3);
            putBits(0, 8 - (bits & 7) & 7);
            putBits(n, 16);
            putBits(~n, 16);
            for (int k = 0; k < n; k++) {
                putBits(source[begin + k], 8);
            }
        }

        private void writeParts() {
            makeCodes(0);
            makeCodes(1);
            for (int k = 0; k < partCount; k++) {
                if (parts[1][k] == 0) {
                    putBits(codes[0][parts[0][k]], lengths[0][parts[0][k]]);
                    continue;
                }
                int s = codeOf(SIZE_BASES, parts[0][k]);
                int d = codeOf(GAP_BASES, parts[1][k]);
                putBits(codes[0][257 + s], lengths[0][257 + s]);
                putBits(parts[0][k] - SIZE_BASES[s], SIZE_BITS[s]);
                putBits(codes[1][d], lengths[1][d]);
                putBits(parts[1][k] - GAP_BASES[d], GAP_BITS[d]);
            }
            putBits(codes[0][256], lengths[0][256]);
        }
    }

    /** UNPACKING. */
    private static final class Unpacker {
        int bad;
        private int[] source;
        private int from;
        private int to;
        private int[] into;
        private int size;
        // How many bits have been taken.
        private int bits;
        private final int[][] counts = new int[3][16];
        private final int[][] symbols = new int[3][288];
        private final int[] lengths = new int[320];

        /** Unpacks bytes into a row of 24000: how many they are, or NONE with a fault. */
        int inflate(int[] bytes, int begin, int behind, int[] target) {
            source = bytes;
            from = begin;
            to = behind;
            into = target;
            size = 0;
            bits = 0;
            bad = 0;
            boolean last = false;
            for (int turn = begin; turn <= behind && !last && bad == 0; turn++) {
                last = takeBits(1) == 1;
                int kind = takeBits(2);
                if (bad != 0) {
                    break;
                }
                if (kind == 3) {
                    bad = 2;
                } else if (kind == 0) {
                    copyStored();
                } else {
                    if (kind == 1) {
                        setFixed();
                    } else {
                        readLengths();
                    }
                    copyParts();
                }
            }
            return bad == 0 ? size : NONE;
        }

        /** Of how many bytes a bit has been taken. */
        int taken() {
            return (bits + 7) / 8;
        }

        private int bit() {
            int at = from + (bits >> 3);
            if (at >= to) {
                bad = 1;
                return 0;
            }
            int value = source[at] >> (bits & 7) & 1;
            bits++;
            return value;
        }

        private int takeBits(int n) {
            int value = 0;
            for (int k = 0; k < n && bad == 0; k++) {
                value |= bit() << k;
            }
            return value;
        }

        private void put(int b) {
            if (size >= BYTES_MOST) {
                bad = 9;
                return;
            }
            into[size] = b;
            size++;
        }

        private void copyStored() {
            bits = bits + 7 & -8;
            int n = takeBits(16);
            int other = takeBits(16);
            if (bad == 0 && (n ^ other) != 65535) {
                bad = 3;
            }
            for (int k = 0; k < n && bad == 0; k++) {
                int b = takeBits(8);
                if (bad == 0) {
                    put(b);
                }
            }
        }

        private void setFixed() {
            for (int k = 0; k < 288; k++) {
                lengths[k] = k < 144 ? 8 : k < 256 ? 9 : k < 280 ? 7 : 8;
            }
            makeCode(0, 0, 288);
            for (int k = 0; k < 32; k++) {
                lengths[k] = 5;
            }
            makeCode(1, 0, 32);
        }

        /** A code of lengths from a place of their row on: how far it is from a whole one. */
        private int makeCode(int code, int at, int n) {
            int[] count = counts[code];
            for (int k = 0; k < 16; k++) {
                count[k] = 0;
            }
            for (int k = 0; k < n; k++) {
                count[lengths[at + k]]++;
            }
            int met = 0;
            int left = 1;
            for (int length = 1; length < 16; length++) {
                left = left * 2 - count[length];
                for (int k = 0; k < n; k++) {
                    if (lengths[at + k] == length) {
                        symbols[code][met] = k;
                        met++;
                    }
                }
                if (left < 0) {
                    return left;
                }
            }
            return left;
        }

        private void readLengths() {
            int literals = takeBits(5) + 257;
            int distances = takeBits(5) + 1;
            int ordered = takeBits(4) + 4;
            if (bad == 0 && (literals > 286 || distances > 30)) {
                bad = 4;
            }
            for (int k = 0; k < 19; k++) {
                lengths[k] = 0;
            }
            for (int k = 0; k < ordered && bad == 0; k++) {
                lengths[Packer.ORDER[k]] = takeBits(3);
            }
            if (bad == 0 && makeCode(2, 0, 19) != 0) {
                bad = 5;
            }
            int at = 0;
            int told = literals + distances;
            // Each turn tells one length at least.
            for (int turn = 0; turn < told && at < told && bad == 0; turn++) {
                at = readLength(at, told);
            }
            if (bad != 0) {
                return;
            }
            boolean whole = makeCode(0, 0, literals) == 0 && lengths[256] > 0;
            boolean wholeToo = makeCode(1, literals, distances) == 0;
            int used = distances - counts[1][0];
            if (!whole || !wholeToo && used != 0 && !(used == 1 && counts[1][1] == 1)) {
                bad = 5;
            }
        }

        /** Reads a length, or a repetition: where the row goes on. */
        private int readLength(int at, int rowSize) {
            int symbol = symbolOf(2);
            if (bad != 0) {
                return at;
            }
            if (symbol < 16) {
                lengths[at] = symbol;
                return at + 1;
            }
            if (symbol == 16 && at == 0) {
                bad = 6;
                return at;
            }
            int value = symbol == 16 ? lengths[at - 1] : 0;
            int n = symbol == 16 ? 3 + takeBits(2) : symbol == 17 ? 3 + takeBits(3) : 11 + takeBits(7);
            if (bad == 0 && at + n > rowSize) {
                bad = 6;
            }
            for (int k = 0; k < n && bad == 0; k++) {
                lengths[at + k] = value;
            }
            return at + n;
        }

        /** The symbol that the next bits tell in a code. */
        private int symbolOf(int code) {
            int value = 0;
            int first = 0;
            int met = 0;
            for (int length = 1; length < 16; length++) {
                value |= bit();
                if (bad != 0) {
                    return 0;
                }
                int count = counts[code][length];
                if (value - first < count) {
                    return symbols[code][met + value - first];
                }
                met += count;
                first = first + count << 1;
                value <<= 1;
            }
            bad = 7;
            return 0;
        }

        private void copyParts() {
            boolean going = bad == 0;
            // Each turn takes a bit at least.
            for (int turn = 0; turn <= 8 * (to - from) && going; turn++) {
                int symbol = symbolOf(0);
                going = bad == 0 && symbol != 256;
                if (going && symbol < 256) {
                    put(symbol);
                } else if (going) {
                    copyMatch(symbol - 257);
                }
                going = going && bad == 0;
            }
        }

        private void copyMatch(int s) {
            if (s > 28) {
                bad = 7;
                return;
            }
            int n = Packer.SIZE_BASES[s] + takeBits(Packer.SIZE_BITS[s]);
            int d = bad == 0 ? symbolOf(1) : 0;
            if (bad == 0 && d > 29) {
                bad = 7;
            }
            if (bad != 0) {
                return;
            }
            int gap = Packer.GAP_BASES[d] + takeBits(Packer.GAP_BITS[d]);
            if (bad == 0 && gap > size) {
                bad = 8;
            }
            for (int k = 0; k < n && bad == 0; k++) {
                put(size >= gap ? into[size - gap] : 0);
            }
        }
    }

    /** XML: looks through bytes, and keeps where the elements stand. */
    private static final class Xml {
        static final int START = 0;
        static final int TAG_END = 1;
        static final int PARENT = 2;
        static final int KIND = 3;
        static final int ID = 4;
        static final int SIGNS = 64;
        static final int ANY_TEXT = 128;

        static final int HTML = 0;
        static final int HEAD = 1;
        static final int TITLE = 2;
        static final int BODY = 3;
        static final int BLOCKQUOTE = 4;
        static final int UL = 5;
        static final int OL = 6;
        static final int LI = 7;
        static final int P = 8;
        static final int H1 = 9;
        static final int H6 = 14;
        static final int EM = 15;
        static final int A = 17;
        static final int PRE = 18;
        static final int CODE_ELEMENT = 19;
        static final int HR = 20;
        static final int BR = 21;
        static final int IMG = 22;
        static final int CONTAINER = 23;
        static final int ROOTFILES = 24;
        static final int ROOTFILE = 25;
        static final int PACKAGE = 26;
        static final int MANIFEST = 27;
        static final int ITEM_ELEMENT = 28;
        static final int SPINE = 29;
        static final int ITEMREF = 30;
        static final int OTHER = 31;
        private static final String NAMES =
            "html head title body blockquote ul ol li p h1 h2 h3 h4 h5 h6 em strong a pre code hr br img container rootfiles rootfile package manifest item spine itemref ";
        private static final String ATTRIBUTES = "id href title src alt class start ";
        private static final int NAME_MOST = 30;
        private static final int DEEP_MOST = 60;
        private static final int COUNT_MOST = 3000;
        // All files of a book together have 60000 bytes at most, an element has four at least.
        static final int ELEMENTS_MOST = FILES_MOST / 4;

        int count;
        int place;
        int next;
        final int[][] rows = new int[5][ELEMENTS_MOST];
        private int[] data;
        private int from;
        private int to;
        private int first;
        private int at;
        private final int[] open = new int[DEEP_MOST];
        private int depth;
        private int passed;
        private final int[] sought = new int[NAME_MOST + 2];

        /** Looks through bytes; their elements are kept from a number on. False: no XML, see place. */
        boolean parse(int[] bytes, int begin, int behind, int base) {
            data = bytes;
            from = begin;
            to = behind;
            first = base;
            count = 0;
            depth = 0;
            place = NONE;
            at = begin;
            if (beginsWithLine()) {
                at += XML_LINE.length();
            }
            skipWhite();
            if (at >= to || data[at] != '<') {
                return stop(at);
            }
            boolean fine = startTag();
            // Each turn takes a byte at least.
            for (int turn = begin; turn <= behind && fine && depth > 0; turn++) {
                if (at >= to) {
                    fine = stop(at);
                } else if (data[at] != '<') {
                    fine = passText();
                } else {
                    fine = at + 1 < to && data[at + 1] == '/' ? endTag() : startTag();
                }
            }
            if (!fine) {
                return false;
            }
            skipWhite();
            return at == to || stop(at);
        }

        private boolean stop(int where) {
            place = where - from;
            return false;
        }

        private boolean beginsWithLine() {
            int same = 0;
            while (same < XML_LINE.length() && at + same < to && data[at + same] == XML_LINE.charAt(same)) {
                same++;
            }
            return same == XML_LINE.length();
        }

        private void skipWhite() {
            while (at < to && Marks.isWhite(data[at])) {
                at++;
            }
        }

        private static boolean isNameSign(int c) {
            return Marks.isLetter(c) || c == '_' || Marks.isDigit(c) || c == '-' || c == '.' || c == ':';
        }

        /** Passes over a NAME; false if none stands there. */
        private boolean passName() {
            int begin = at;
            if (at >= to || !Marks.isLetter(data[at]) && data[at] != '_') {
                return stop(at);
            }
            while (at < to && isNameSign(data[at])) {
                if (at - begin == NAME_MOST) {
                    return stop(at);
                }
                at++;
            }
            return true;
        }

        /** A character of what an open element holds. */
        private boolean passText() {
            if (!passCharacter()) {
                return false;
            }
            rows[KIND][open[depth - 1]] |= Marks.isWhite(passed) ? ANY_TEXT : ANY_TEXT | SIGNS;
            return true;
        }

        /** Passes over a character or a reference; false if none may be there. */
        private boolean passCharacter() {
            if (data[at] == '&') {
                int behind = Marks.referenceEnd(data, at, to);
                int number = behind == NONE ? 0 : Marks.referenceNumber(data, at, behind);
                boolean named = behind != NONE && data[at + 1] != '#';
                if (!Marks.isCharacter(number) || Marks.isForbidden(number) || named && number > 127) {
                    return stop(at);
                }
                passed = number;
                at = behind;
                return true;
            }
            int n = Marks.sizeAt(data, at, to);
            int c = n == 0 ? 0 : Marks.valueAt(data, at, n);
            if (Marks.isForbidden(c)) {
                return stop(at);
            }
            passed = c;
            at += n;
            return true;
        }

        private boolean startTag() {
            int start = at;
            int e = first + count;
            if (depth >= DEEP_MOST || count >= COUNT_MOST || e >= ELEMENTS_MOST) {
                return stop(at);
            }
            at++;
            if (!passName()) {
                return false;
            }
            rows[START][e] = start;
            rows[PARENT][e] = depth > 0 ? open[depth - 1] : NONE;
            rows[KIND][e] = kindNamed(start + 1, at);
            rows[ID][e] = NONE;
            count++;
            for (int turn = start; turn < to; turn++) {
                int white = at;
                skipWhite();
                int c = at < to ? data[at] : 0;
                if (c == '>') {
                    at++;
                    rows[TAG_END][e] = at;
                    open[depth] = e;
                    depth++;
                    return true;
                }
                if (c == '/' && at + 1 < to && data[at + 1] == '>') {
                    at += 2;
                    rows[TAG_END][e] = at;
                    return true;
                }
                if (c == '/' || at == white) {
                    return stop(c == '/' ? at + 1 : at);
                }
                if (!attribute(e)) {
                    return false;
                }
            }
            return stop(at);
        }

        private int kindNamed(int begin, int behind) {
            int number = Marks.wordNumber(NAMES, data, begin, behind);
            return number == NONE ? OTHER : number;
        }

        private boolean attribute(int e) {
            int begin = at;
            if (!passName()) {
                return false;
            }
            int behind = at;
            if (valueOf(e, data, begin, behind, begin) != NONE) {
                return stop(begin);
            }
            if (at >= to || data[at] != '=') {
                return stop(at);
            }
            at++;
            if (at >= to || data[at] != '"') {
                return stop(at);
            }
            at++;
            if (Marks.wordNumber(ATTRIBUTES, data, begin, behind) == 0) {
                rows[ID][e] = at;
            }
            // Each turn goes on by a byte at least.
            for (int turn = at; turn < to && at < to && data[at] != '"'; turn++) {
                if (data[at] == '<') {
                    return stop(at);
                }
                if (!passCharacter()) {
                    return false;
                }
            }
            if (at >= to) {
                return stop(at);
            }
            at++;
            return true;
        }

        private boolean endTag() {
            int e = open[depth - 1];
            at += 2;
            int begin = at;
            if (!passName()) {
                return false;
            }
            int own = rows[START][e] + 1;
            for (int p = begin; p < at; p++) {
                if (data[own + p - begin] != data[p]) {
                    return stop(begin);
                }
            }
            if (isNameSign(data[own + at - begin])) {
                return stop(begin);
            }
            skipWhite();
            if (at >= to || data[at] != '>') {
                return stop(at);
            }
            at++;
            depth--;
            return true;
        }

        int kindOf(int e) {
            return rows[KIND][e] & SIGNS - 1;
        }

        /** Where the value of the attribute with a name begins in an element's tag; or NONE. */
        int valueOf(int e, int[] name, int begin, int behind, int stop) {
            int p = rows[START][e] + 1;
            while (p < stop && isNameSign(data[p])) {
                p++;
            }
            while (p < stop) {
                while (p < stop && Marks.isWhite(data[p])) {
                    p++;
                }
                int own = p;
                while (p < stop && isNameSign(data[p])) {
                    p++;
                }
                if (p == own) {
                    return NONE;
                }
                int same = 0;
                while (same < p - own && same < behind - begin && data[own + same] == name[begin + same]) {
                    same++;
                }
                // Behind the name stand = and ".
                p += 2;
                if (same == behind - begin && own + same + 2 == p) {
                    return p;
                }
                while (p < stop && data[p] != '"') {
                    p++;
                }
                p++;
            }
            return NONE;
        }

        int valueNamed(int e, String name) {
            int size = Math.min(name.length(), sought.length);
            for (int k = 0; k < size; k++) {
                sought[k] = name.charAt(k);
            }
            return valueOf(e, sought, 0, size, rows[TAG_END][e]);
        }

        /** The character at a place of what was looked through; next is behind it then. */
        int characterAt(int p) {
            int behind = data[p] == '&' ? Marks.referenceEnd(data, p, to) : NONE;
            if (behind != NONE) {
                next = behind;
                return Marks.referenceNumber(data, p, behind);
            }
            int n = Math.max(1, Marks.sizeAt(data, p, to));
            next = p + n;
            return Marks.valueAt(data, p, n);
        }

        /** Goes on in bytes that were looked through before. */
        void turnTo(int[] bytes, int behind) {
            data = bytes;
            to = behind;
        }

        boolean isValueEnd(int p) {
            return p >= to || data[p] == '"';
        }

        boolean sameValues(int p, int q) {
            int a = p;
            int b = q;
            for (int turn = 0; turn < BYTES_MOST && !isValueEnd(a) && !isValueEnd(b); turn++) {
                int c = characterAt(a);
                a = next;
                if (c != characterAt(b)) {
                    return false;
                }
                b = next;
            }
            return isValueEnd(a) && isValueEnd(b);
        }

        /** The first element of a kind that an element holds itself, from another one on; or NONE. */
        int childOf(int e, int kind, int begin) {
            for (int j = Math.max(e + 1, begin); j < first + count && rows[PARENT][j] >= e; j++) {
                if (rows[PARENT][j] == e && kindOf(j) == kind) {
                    return j;
                }
            }
            return NONE;
        }

        /** Whether words or ends of lines stand in an element. */
        boolean hasWords(int e) {
            for (int j = e; j < first + count && (j == e || rows[PARENT][j] >= e); j++) {
                if ((rows[KIND][j] & SIGNS) != 0 || kindOf(j) == BR || kindOf(j) == IMG) {
                    return true;
                }
            }
            return false;
        }

        /** Whether all is as LISTED; place is that of the first element that is not. */
        boolean isListed() {
            for (int e = first; e < first + count; e++) {
                if (!mayBeThere(e) || !hasItsAttributes(e) || !hasNewId(e)
                    || !holdsWhatItMust(e) || !hasRightText(e)) {
                    place = rows[START][e] - from;
                    return false;
                }
            }
            return true;
        }

        static boolean isBlock(int kind) {
            return kind >= P && kind <= H6 || kind == HR || kind == PRE || kind >= BLOCKQUOTE && kind <= OL;
        }

        static boolean isInline(int kind) {
            return kind >= EM && kind <= A || kind == CODE_ELEMENT || kind == BR || kind == IMG;
        }

        private boolean mayBeThere(int e) {
            int kind = kindOf(e);
            if (e == first) {
                return kind == HTML;
            }
            int holder = kindOf(rows[PARENT][e]);
            if (kind == HEAD || kind == BODY) {
                return holder == HTML;
            }
            if (kind == TITLE) {
                return holder == HEAD;
            }
            if (kind == LI) {
                return holder == UL || holder == OL;
            }
            if (isBlock(kind)) {
                return holder == BODY || holder == BLOCKQUOTE || holder == LI;
            }
            if (kind == CODE_ELEMENT && holder == PRE) {
                return true;
            }
            boolean room = holder >= LI && holder <= A;
            return isInline(kind) && room && (kind != A || !isInLink(e));
        }

        private boolean isInLink(int e) {
            int holder = rows[PARENT][e];
            for (int turn = 0; turn < DEEP_MOST && holder != NONE; turn++) {
                if (kindOf(holder) == A) {
                    return true;
                }
                holder = rows[PARENT][holder];
            }
            return false;
        }

        private boolean hasItsAttributes(int e) {
            int kind = kindOf(e);
            int p = rows[START][e] + 1;
            int met = 0;
            while (p < rows[TAG_END][e] && isNameSign(data[p])) {
                p++;
            }
            int end = rows[TAG_END][e];
            while (p < end) {
                while (p < end && Marks.isWhite(data[p])) {
                    p++;
                }
                int begin = p;
                while (p < end && isNameSign(data[p])) {
                    p++;
                }
                if (p == begin) {
                    break;
                }
                int name = Marks.wordNumber(ATTRIBUTES, data, begin, p);
                p += 2;
                if (name == NONE || !mayHave(kind, name) || name == 6 && !isStart(p)) {
                    return false;
                }
                met |= 1 << name;
                while (p < end && data[p] != '"') {
                    p++;
                }
                p++;
            }
            return kind == A ? (met & 2) != 0 : kind != IMG || (met & 24) == 24;
        }

        /** Attributes by their number: id, href, title, src, alt, class, start. */
        private static boolean mayHave(int kind, int name) {
            switch (name) {
                case 0:
                    return true;
                case 1:
                    return kind == A;
                case 2:
                    return kind == A || kind == IMG;
                case 5:
                    return kind == CODE_ELEMENT;
                case 6:
                    return kind == OL;
                default:
                    return kind == IMG;
            }
        }

        private boolean isStart(int p) {
            int digits = 0;
            int q = p;
            while (digits < 10 && !isValueEnd(q)) {
                if (!Marks.isDigit(characterAt(q))) {
                    return false;
                }
                q = next;
                digits++;
            }
            return digits > 0 && digits < 10;
        }

        private boolean hasNewId(int e) {
            int id = rows[ID][e];
            for (int j = first; j < e && id != NONE; j++) {
                if (rows[ID][j] != NONE && sameValues(id, rows[ID][j])) {
                    return false;
                }
            }
            return true;
        }

        private boolean holdsWhatItMust(int e) {
            int kind = kindOf(e);
            if (kind != HTML && kind != HEAD && kind != PRE) {
                return true;
            }
            int met = 0;
            boolean fine = true;
            for (int j = e + 1; j < first + count && rows[PARENT][j] >= e; j++) {
                if (rows[PARENT][j] == e) {
                    int wanted = kind == PRE ? CODE_ELEMENT : kind == HEAD ? TITLE : met == 0 ? HEAD : BODY;
                    fine = fine && kindOf(j) == wanted;
                    met++;
                }
            }
            return fine && met == (kind == HTML ? 2 : 1);
        }

        private boolean hasRightText(int e) {
            int kind = kindOf(e);
            if (kind == HR || kind == BR || kind == IMG) {
                return (rows[KIND][e] & ANY_TEXT) == 0;
            }
            boolean free = kind == TITLE || kind == CODE_ELEMENT || kind >= LI && kind <= A;
            return free || (rows[KIND][e] & SIGNS) == 0;
        }
    }

    /** An archive that is read: its files, and the elements of those of its spine. */
    private static final class Archive {
        private static final int FILES = 40;
        private static final int SPINE = 30;
        private static final int NAME_AT = 0;
        private static final int NAME_SIZE = 1;
        private static final int METHOD = 2;
        private static final int CRC = 3;
        private static final int PACKED = 4;
        private static final int SIZE = 5;
        private static final int BYTES_AT = 6;
        private static final int DATA_AT = 7;
        private static final int HEADER_AT = 8;
        private static final int LINK_AT = 0;
        private static final int FILE = 1;
        static final int FIRST = 2;
        static final int COUNT = 3;
        static final int TO = 4;
        private static final String MIMETYPE = "application/epub+zip";

        final Xml xml = new Xml();
        final int[] data = new int[FILES_MOST];
        final int[][] spine = new int[5][SPINE];
        int spineCount;
        final int[] bad = {0, NONE, NONE};
        private int[] tape;
        private int endAt;
        private int centralAt;
        private final int[][] files = new int[9][FILES];
        private int fileCount;
        private int packageFile;
        private int folderSize;
        private final int[][] items = new int[2][FILES];
        private int itemCount;

        private boolean tell(int kind, int file, int place) {
            bad[0] = kind;
            bad[1] = file;
            bad[2] = place;
            return false;
        }

        private int two(int at) {
            return tape[at] | tape[at + 1] << 8;
        }

        private long four(int at) {
            return two(at) | (long) two(at + 2) << 16;
        }

        private boolean isSigned(int at, int a, int b) {
            return tape[at] == 80 && tape[at + 1] == 75 && tape[at + 2] == a && tape[at + 3] == b;
        }

        /** Takes the bytes of an archive, and looks at its END. */
        boolean readEnd(int[] bytes, int size) {
            tell(0, NONE, NONE);
            tape = bytes;
            spineCount = 0;
            endAt = size - 22;
            if (endAt < 0) {
                return tell(1, NONE, 0);
            }
            fileCount = two(endAt + 10);
            long begin = four(endAt + 16);
            boolean fine = isSigned(endAt, 5, 6) && four(endAt + 4) == 0 && two(endAt + 8) == fileCount
                && fileCount >= 1 && fileCount <= FILES && begin + four(endAt + 12) == endAt
                && two(endAt + 20) == 0;
            centralAt = fine ? (int) begin : 0;
            return fine || tell(1, NONE, endAt);
        }

        boolean readHeaders() {
            int at = centralAt;
            for (int k = 0; k < fileCount; k++) {
                if (!readCentral(k, at)) {
                    return tell(2, k, at);
                }
                at += 46 + files[NAME_SIZE][k];
            }
            at = 0;
            for (int k = 0; k < fileCount; k++) {
                if (!checkLocal(k, at)) {
                    return tell(3, k, at);
                }
                at += 30 + files[NAME_SIZE][k] + files[PACKED][k];
            }
            boolean fine = isNamed(0, "mimetype") && files[METHOD][0] == 0
                && files[PACKED][0] == MIMETYPE.length();
            for (int k = 0; k < MIMETYPE.length() && fine; k++) {
                fine = tape[files[BYTES_AT][0] + k] == MIMETYPE.charAt(k);
            }
            return fine || tell(4, 0, 0);
        }

        private boolean readCentral(int k, int at) {
            if (at + 46 > endAt || !isSigned(at, 1, 2)) {
                return false;
            }
            int method = two(at + 10);
            int nameSize = two(at + 28);
            int behind = at + 46 + nameSize;
            boolean fine = two(at + 4) == 20 && two(at + 6) == 20 && two(at + 8) == 0
                && (method == 0 || method == 8) && two(at + 12) == 0 && two(at + 14) == 33
                && four(at + 30) == 0 && four(at + 34) == 0 && four(at + 38) == 0
                && nameSize >= 1 && nameSize <= 60 && behind <= endAt
                && (k < fileCount - 1 || behind == endAt);
            for (int p = at + 46; p < behind && fine; p++) {
                fine = tape[p] >= 33 && tape[p] <= 126;
            }
            files[NAME_AT][k] = at + 46;
            files[NAME_SIZE][k] = nameSize;
            files[METHOD][k] = method;
            files[CRC][k] = (int) four(at + 16);
            // What is longer than all bytes of a tape is refused later on, however long it is.
            files[PACKED][k] = (int) Math.min(four(at + 20), BYTES_MOST + 1);
            files[SIZE][k] = (int) Math.min(four(at + 24), BYTES_MOST + 1);
            files[HEADER_AT][k] = at;
            for (int j = 0; j < k && fine; j++) {
                fine = !haveSameName(j, k);
            }
            return fine;
        }

        private boolean haveSameName(int j, int k) {
            int size = files[NAME_SIZE][k];
            int same = 0;
            while (same < size && size == files[NAME_SIZE][j]
                && tape[files[NAME_AT][j] + same] == tape[files[NAME_AT][k] + same]) {
                same++;
            }
            return same == size && size == files[NAME_SIZE][j];
        }

        private boolean checkLocal(int k, int at) {
            int central = files[HEADER_AT][k];
            int nameSize = files[NAME_SIZE][k];
            if (four(central + 42) != at || at + 30 + nameSize > centralAt || !isSigned(at, 3, 4)) {
                return false;
            }
            boolean fine = true;
            for (int p = 4; p < 30; p++) {
                fine = fine && tape[at + p] == tape[central + p + 2];
            }
            for (int p = 0; p < nameSize; p++) {
                fine = fine && tape[at + 30 + p] == tape[central + 46 + p];
            }
            files[BYTES_AT][k] = at + 30 + nameSize;
            int behind = at + 30 + nameSize + files[PACKED][k];
            return fine && (k == fileCount - 1 ? behind == centralAt : behind <= centralAt);
        }

        private boolean isNamed(int k, String name) {
            boolean same = files[NAME_SIZE][k] == name.length();
            for (int p = 0; p < name.length() && same; p++) {
                same = tape[files[NAME_AT][k] + p] == name.charAt(p);
            }
            return same;
        }

        boolean unpackFiles(Unpacker unpacker, int[] work) {
            int used = 0;
            for (int k = 0; k < fileCount; k++) {
                int size = files[SIZE][k];
                int packed = files[PACKED][k];
                boolean stored = files[METHOD][k] == 0;
                if (size > BYTES_MOST || stored && size != packed || used + size > FILES_MOST) {
                    return tell(5, k, 0);
                }
                int at = files[BYTES_AT][k];
                files[DATA_AT][k] = used;
                if (stored) {
                    System.arraycopy(tape, at, data, used, size);
                } else {
                    int n = unpacker.inflate(tape, at, at + packed, work);
                    if (n == NONE) {
                        return tell(6, k, unpacker.taken());
                    }
                    if (n != size || unpacker.taken() != packed) {
                        return tell(6, k, 0);
                    }
                    System.arraycopy(work, 0, data, used, size);
                }
                used += size;
                if (Marks.crcOf(data, used - size, used) != files[CRC][k]) {
                    return tell(7, k, 0);
                }
            }
            return true;
        }

        private int dataEnd(int k) {
            return files[DATA_AT][k] + files[SIZE][k];
        }

        boolean readContainer() {
            int file = NONE;
            for (int k = 0; k < fileCount && file == NONE; k++) {
                file = isNamed(k, "META-INF/container.xml") ? k : NONE;
            }
            if (file == NONE) {
                return tell(8, NONE, 0);
            }
            if (!xml.parse(data, files[DATA_AT][file], dataEnd(file), 0)) {
                return tell(8, file, xml.place);
            }
            int element = xml.kindOf(0) == Xml.CONTAINER ? xml.childOf(0, Xml.ROOTFILES, 0) : NONE;
            element = element == NONE ? NONE : xml.childOf(element, Xml.ROOTFILE, 0);
            int value = element == NONE ? NONE : xml.valueNamed(element, "full-path");
            if (value == NONE) {
                return tell(8, file, 0);
            }
            folderSize = 0;
            packageFile = NONE;
            for (int k = 0; k < fileCount && packageFile == NONE; k++) {
                packageFile = isNamedBy(k, value, NONE) ? k : NONE;
            }
            return packageFile != NONE || tell(9, NONE, 0);
        }

        /** Whether a file is in the folder with the name that a value tells, up to a place or its end. */
        private boolean isNamedBy(int k, int value, int stop) {
            int size = files[NAME_SIZE][k];
            int n = 0;
            while (n < folderSize) {
                if (n >= size || tape[files[NAME_AT][k] + n] != tape[files[NAME_AT][packageFile] + n]) {
                    return false;
                }
                n++;
            }
            int p = value;
            while (n < size && p != stop && !xml.isValueEnd(p)) {
                if (xml.characterAt(p) != tape[files[NAME_AT][k] + n]) {
                    return false;
                }
                p = xml.next;
                n++;
            }
            return n == size && (p == stop || xml.isValueEnd(p));
        }

        boolean readPackage() {
            if (!xml.parse(data, files[DATA_AT][packageFile], dataEnd(packageFile), 0)) {
                return tell(9, packageFile, xml.place);
            }
            boolean whole = xml.kindOf(0) == Xml.PACKAGE;
            int manifest = whole ? xml.childOf(0, Xml.MANIFEST, 0) : NONE;
            int order = whole ? xml.childOf(0, Xml.SPINE, 0) : NONE;
            if (manifest == NONE || order == NONE || !readItems(manifest) || !readOrder(order)) {
                return tell(9, packageFile, 0);
            }
            folderSize = 0;
            for (int p = 0; p < files[NAME_SIZE][packageFile]; p++) {
                if (tape[files[NAME_AT][packageFile] + p] == '/') {
                    folderSize = p + 1;
                }
            }
            return true;
        }

        private boolean readItems(int manifest) {
            itemCount = 0;
            int e = xml.childOf(manifest, Xml.ITEM_ELEMENT, 0);
            for (int turn = 0; turn <= FILES && e != NONE; turn++) {
                int id = xml.valueNamed(e, "id");
                int href = xml.valueNamed(e, "href");
                if (itemCount >= FILES || id == NONE || href == NONE || itemWithId(id) != NONE) {
                    return false;
                }
                items[0][itemCount] = id;
                items[1][itemCount] = href;
                itemCount++;
                e = xml.childOf(manifest, Xml.ITEM_ELEMENT, e + 1);
            }
            return true;
        }

        private int itemWithId(int value) {
            for (int k = 0; k < itemCount; k++) {
                if (xml.sameValues(items[0][k], value)) {
                    return k;
                }
            }
            return NONE;
        }

        private boolean readOrder(int order) {
            spineCount = 0;
            int e = xml.childOf(order, Xml.ITEMREF, 0);
            for (int turn = 0; turn <= SPINE && e != NONE; turn++) {
                int id = xml.valueNamed(e, "idref");
                int item = id == NONE ? NONE : itemWithId(id);
                if (spineCount >= SPINE || item == NONE) {
                    return false;
                }
                spine[LINK_AT][spineCount] = items[1][item];
                spineCount++;
                e = xml.childOf(order, Xml.ITEMREF, e + 1);
            }
            return spineCount > 0;
        }

        boolean readSpine() {
            int base = 0;
            for (int s = 0; s < spineCount; s++) {
                xml.turnTo(data, dataEnd(packageFile));
                int file = NONE;
                for (int k = 0; k < fileCount && file == NONE; k++) {
                    file = isNamedBy(k, spine[LINK_AT][s], NONE) ? k : NONE;
                }
                boolean fresh = file != NONE;
                for (int j = 0; j < s; j++) {
                    fresh = fresh && spine[FILE][j] != file;
                }
                if (!fresh) {
                    return tell(10, packageFile, s);
                }
                if (!xml.parse(data, files[DATA_AT][file], dataEnd(file), base)) {
                    return tell(10, file, xml.place);
                }
                if (!xml.isListed()) {
                    return tell(11, file, xml.place);
                }
                spine[FILE][s] = file;
                spine[FIRST][s] = base;
                spine[COUNT][s] = xml.count;
                spine[TO][s] = dataEnd(file);
                base += xml.count;
            }
            return true;
        }

        /** Looks whether links into files of the spine have the elements they name. */
        boolean checkLinks() {
            xml.turnTo(data, data.length);
            for (int s = 0; s < spineCount; s++) {
                for (int e = spine[FIRST][s]; e < spine[FIRST][s] + spine[COUNT][s]; e++) {
                    if (xml.kindOf(e) == Xml.A && !leadsOn(s, xml.valueNamed(e, "href"))) {
                        int file = spine[FILE][s];
                        return tell(12, file, xml.rows[Xml.START][e] - files[DATA_AT][file]);
                    }
                }
            }
            return true;
        }

        private boolean leadsOn(int s, int value) {
            int hash = value;
            for (int turn = 0; turn < BYTES_MOST && !xml.isValueEnd(hash) && xml.characterAt(hash) != '#'; turn++) {
                hash = xml.next;
            }
            if (xml.isValueEnd(hash)) {
                return true;
            }
            xml.characterAt(hash);
            int name = xml.next;
            int target = hash == value ? s : NONE;
            for (int j = 0; j < spineCount && target == NONE; j++) {
                target = isNamedBy(spine[FILE][j], value, hash) ? j : NONE;
            }
            if (target == NONE) {
                return true;
            }
            for (int e = spine[FIRST][target]; e < spine[FIRST][target] + spine[COUNT][target]; e++) {
                int id = xml.rows[Xml.ID][e];
                if (id != NONE && xml.sameValues(id, name)) {
                    return true;
                }
            }
            return false;
        }

        /** The element of a file of the spine whose id bytes are; or NONE. */
        int elementWithId(int s, int[] bytes, int size) {
            xml.turnTo(data, spine[TO][s]);
            for (int e = spine[FIRST][s]; e < spine[FIRST][s] + spine[COUNT][s]; e++) {
                int p = xml.rows[Xml.ID][e];
                int at = 0;
                boolean same = p != NONE;
                while (at < size && same && !xml.isValueEnd(p)) {
                    int n = Marks.sizeAt(bytes, at, size);
                    same = n > 0 && Marks.valueAt(bytes, at, n) == xml.characterAt(p);
                    p = xml.next;
                    at += n;
                }
                if (same && xml.isValueEnd(p) && at == size) {
                    return e;
                }
            }
            return NONE;
        }
    }

    /** PAGES: a book's lines, and the sheets they fill. */
    private static final class Pages {
        static final int LINES_MOST = 3000;
        private static final int WIDE_MOST = 80;
        private static final int DEEP_MOST = 64;
        private static final int SHEETS_MOST = LINES_MOST + 40;
        private static final int FILES = 30;

        private static final int STATE = 0;
        private static final int HEAD_SIZE = 1;
        private static final int SHEET = 2;
        private static final int EMPTY = 1;
        private static final int BETWEEN = 2;

        private static final int KIND = 0;
        private static final int WIDTH = 1;
        private static final int START = 2;
        private static final int SPACED = 3;
        private static final int NUMBER = 4;
        private static final int SIGN_SIZE = 5;
        private static final int SIGNED = 6;

        private static final int FIRST = 0;
        private static final int COUNT = 1;
        private static final int FILE = 2;
        private static final int WAITING = -2;

        boolean laid;
        int rows;
        int columns;
        int lineCount;
        int sheetCount;
        private Archive book;
        private boolean counting;
        private final int[] cells = new int[LINES_MOST * WIDE_MOST];
        private final int[][] lines = new int[3][LINES_MOST];
        private final int[][] sheets = new int[3][SHEETS_MOST];
        // Of each file of the spine its first line, what follows its last, and its last sheet.
        private final int[][] parts = new int[3][FILES];
        private final int[] marks = new int[Xml.ELEMENTS_MOST];
        // Frames are the body, quotes, lists and items that stand open round what is laid out.
        private final int[][] frames = new int[7][DEEP_MOST];
        private int depth;
        private int between;
        private int leafAt;
        // The first line of the heading that is laid out; WAITING as long as none has come.
        private int headAt;
        private final int[] word = new int[WIDE_MOST];
        private int wordSize;
        private final int[] row = new int[WIDE_MOST];
        private int rowSize;

        /** Begins to lay a book out; counting alone changes nothing of what was laid out before. */
        void begin(Archive read, int wide, boolean countOnly) {
            book = read;
            counting = countOnly;
            lineCount = 0;
            frames[KIND][0] = Xml.BODY;
            frames[WIDTH][0] = wide;
            frames[SPACED][0] = 1;
        }

        /** Makes the lines of a file of the spine. */
        void layFile(int f) {
            Xml xml = book.xml;
            xml.turnTo(book.data, book.spine[Archive.TO][f]);
            int e = book.spine[Archive.FIRST][f];
            int stop = e + book.spine[Archive.COUNT][f];
            startFile(f);
            while (e < stop && xml.kindOf(e) != Xml.BODY) {
                setMark(e, lineCount);
                e++;
            }
            int current = NONE;
            int p = e < stop ? xml.rows[Xml.START][e] : book.spine[Archive.TO][f];
            // Each turn goes on by a byte at least, up to the body's end.
            for (int turn = p; turn < book.spine[Archive.TO][f]; turn++) {
                int c = xml.characterAt(p);
                int behind = xml.next;
                boolean tag = book.data[p] == '<';
                if (!tag) {
                    takeCharacter(current, c);
                } else if (book.data[behind] == '/') {
                    endElement(current);
                    current = xml.rows[Xml.PARENT][current];
                    behind = tagEnd(behind);
                } else {
                    startElement(e);
                    if (xml.kindOf(e) == Xml.IMG) {
                        putImage(xml.valueNamed(e, "alt"));
                    }
                    behind = xml.rows[Xml.TAG_END][e];
                    if (book.data[behind - 2] == '/') {
                        endElement(e);
                    } else {
                        current = e;
                    }
                    e++;
                }
                p = behind;
                if (tag && (current == NONE || xml.kindOf(current) == Xml.HTML)) {
                    break;
                }
            }
            endFile(f);
        }

        private void startFile(int f) {
            depth = 1;
            between = 0;
            leafAt = lineCount;
            headAt = NONE;
            wordSize = 0;
            rowSize = 0;
            frames[START][0] = lineCount;
            if (!counting) {
                parts[0][f] = lineCount;
            }
        }

        private void endFile(int f) {
            if (!counting) {
                parts[1][f] = lineCount;
            }
        }

        private int tagEnd(int at) {
            int p = at;
            while (p < book.data.length && book.data[p] != '>') {
                p++;
            }
            return p + 1;
        }

        private void setMark(int e, int line) {
            if (!counting) {
                marks[e] = line;
            }
        }

        private void takeCharacter(int e, int c) {
            int kind = book.xml.kindOf(e);
            boolean coded = kind == Xml.CODE_ELEMENT && book.xml.kindOf(book.xml.rows[Xml.PARENT][e]) == Xml.PRE;
            if (coded) {
                putCode(c);
            } else if (kind >= Xml.LI && kind != Xml.PRE) {
                putSign(c);
            }
        }

        private int width() {
            return frames[WIDTH][depth - 1];
        }

        /** Another block comes in the innermost frame: an empty line may come ahead of it. */
        private void nextBlock() {
            if (lineCount > frames[START][depth - 1]) {
                between = frames[SPACED][depth - 1] == 1 ? depth : 0;
            }
        }

        private void startElement(int e) {
            Xml xml = book.xml;
            int kind = xml.kindOf(e);
            if (Xml.isBlock(kind) || kind == Xml.LI) {
                endRow();
                nextBlock();
                leafAt = lineCount;
            }
            setMark(e, Xml.isInline(kind) ? leafAt : lineCount);
            if (kind == Xml.BR) {
                endWord();
                emit(row, rowSize);
                rowSize = 0;
            } else if (kind == Xml.HR) {
                for (int k = 0; k < width(); k++) {
                    row[k] = '-';
                }
                emit(row, width());
            } else if (kind == Xml.BLOCKQUOTE) {
                openFrame(kind, 2, true);
            } else if (kind == Xml.UL || kind == Xml.OL) {
                openList(e, kind);
            } else if (kind == Xml.LI) {
                openItem(e);
            } else if (kind >= Xml.H1 && kind <= Xml.H6) {
                headAt = WAITING;
                for (int k = Xml.H1; k <= kind; k++) {
                    putSign('=');
                }
                endWord();
            }
        }

        private void openFrame(int kind, int less, boolean spaced) {
            if (depth < DEEP_MOST) {
                frames[KIND][depth] = kind;
                frames[WIDTH][depth] = less == 0 ? width() : Math.max(4, width() - less);
                frames[START][depth] = lineCount;
                frames[SPACED][depth] = spaced ? 1 : 0;
                frames[SIGNED][depth] = 0;
                depth++;
            }
        }

        private void openList(int e, int kind) {
            Xml xml = book.xml;
            boolean spaced = false;
            int item = xml.childOf(e, Xml.LI, 0);
            for (int turn = 0; turn < Xml.ELEMENTS_MOST && item != NONE && !spaced; turn++) {
                spaced = holdsParagraph(item);
                item = xml.childOf(e, Xml.LI, item + 1);
            }
            int number = 1;
            int start = kind == Xml.OL ? xml.valueNamed(e, "start") : NONE;
            if (start != NONE) {
                number = 0;
                int p = start;
                for (int digits = 0; digits < 9 && !xml.isValueEnd(p); digits++) {
                    number = number * 10 + Marks.digitOf(xml.characterAt(p));
                    p = xml.next;
                }
            }
            openFrame(kind, 0, spaced);
            frames[NUMBER][depth - 1] = number;
        }

        /** Whether an item holds a p itself; one without lines counts nowhere, and not here either. */
        private boolean holdsParagraph(int item) {
            Xml xml = book.xml;
            int p = xml.childOf(item, Xml.P, 0);
            for (int turn = 0; turn < Xml.ELEMENTS_MOST && p != NONE && !xml.hasWords(p); turn++) {
                p = xml.childOf(item, Xml.P, p + 1);
            }
            return p != NONE;
        }

        private void openItem(int e) {
            int list = depth - 1;
            int number = frames[NUMBER][list];
            frames[NUMBER][list]++;
            boolean numbered = frames[KIND][list] == Xml.OL;
            int size = numbered ? 3 : 2;
            for (int rest = number / 10; numbered && rest > 0; rest /= 10) {
                size++;
            }
            openFrame(Xml.LI, size, holdsParagraph(e));
            frames[NUMBER][depth - 1] = numbered ? number : NONE;
            frames[SIGN_SIZE][depth - 1] = size;
            frames[SIGNED][depth - 1] = 1;
        }

        private void endElement(int e) {
            int kind = book.xml.kindOf(e);
            if (kind == Xml.P || kind >= Xml.H1 && kind <= Xml.H6 || kind == Xml.LI || kind == Xml.PRE) {
                endRow();
            }
            if (kind >= Xml.H1 && kind <= Xml.H6) {
                if (!counting && headAt >= 0) {
                    lines[HEAD_SIZE][headAt] = lineCount - headAt;
                }
                headAt = NONE;
            }
            if (kind == Xml.LI && lineCount == frames[START][depth - 1]) {
                emit(row, 0);
            }
            boolean frame = kind == Xml.BLOCKQUOTE || kind == Xml.LI || kind == Xml.UL || kind == Xml.OL;
            if (frame && depth > 1) {
                depth--;
            }
            if (Xml.isBlock(kind) && frames[KIND][depth - 1] == Xml.LI) {
                nextBlock();
                leafAt = lineCount;
            }
        }

        /** A character of words: it comes to the word, or ends it. */
        private void putSign(int c) {
            if (Marks.isWhite(c)) {
                endWord();
                return;
            }
            if (wordSize == width()) {
                if (rowSize > 0) {
                    emit(row, rowSize);
                    rowSize = 0;
                }
                emit(word, wordSize);
                wordSize = 0;
            }
            word[wordSize] = c;
            wordSize++;
        }

        private void endWord() {
            if (wordSize == 0) {
                return;
            }
            if (rowSize > 0 && rowSize + 1 + wordSize > width()) {
                emit(row, rowSize);
                rowSize = 0;
            }
            if (rowSize > 0) {
                row[rowSize] = 32;
                rowSize++;
            }
            System.arraycopy(word, 0, row, rowSize, wordSize);
            rowSize += wordSize;
            wordSize = 0;
        }

        private void endRow() {
            endWord();
            if (rowSize > 0) {
                emit(row, rowSize);
                rowSize = 0;
            }
        }

        private void putImage(int value) {
            Xml xml = book.xml;
            putSign('[');
            int p = value;
            for (int turn = 0; turn < BYTES_MOST && p != NONE && !xml.isValueEnd(p); turn++) {
                int c = xml.characterAt(p);
                p = xml.next;
                putSign(c);
            }
            putSign(']');
        }

        /** A character of pre: a piece of the width is a line, and so is what 10 ends. */
        private void putCode(int c) {
            if (c == 10 || rowSize == width()) {
                emit(row, rowSize);
                rowSize = 0;
            }
            if (c != 10) {
                row[rowSize] = c;
                rowSize++;
            }
        }

        /** A line comes, behind the empty one that is due. */
        private void emit(int[] signs, int size) {
            if (between > 0) {
                int outer = between;
                between = 0;
                store(outer, signs, 0, BETWEEN);
            }
            if (headAt == WAITING) {
                headAt = lineCount;
            }
            store(depth, signs, size, 0);
        }

        private void store(int outer, int[] signs, int size, int state) {
            if (counting || lineCount >= LINES_MOST) {
                lineCount++;
                return;
            }
            int at = lineCount * WIDE_MOST;
            for (int k = 0; k < WIDE_MOST; k++) {
                cells[at + k] = 32;
            }
            lines[HEAD_SIZE][lineCount] = 0;
            lines[STATE][lineCount] = EMPTY | state;
            int column = 0;
            for (int k = 0; k < outer; k++) {
                column = storeAhead(k, column);
            }
            for (int k = 0; k < size; k++) {
                if (signs[k] != 32) {
                    lines[STATE][lineCount] = state;
                }
                // What is beyond the page's width is not seen.
                if (column + k < frames[WIDTH][0]) {
                    cells[at + column + k] = signs[k];
                }
            }
            lineCount++;
        }

        /** What a frame puts ahead of a line: in which column that goes on. */
        private int storeAhead(int frame, int column) {
            boolean quote = frames[KIND][frame] == Xml.BLOCKQUOTE;
            if (!quote && frames[KIND][frame] != Xml.LI) {
                return column;
            }
            int size = quote ? 2 : frames[SIGN_SIZE][frame];
            if (quote || frames[SIGNED][frame] == 1) {
                frames[SIGNED][frame] = 0;
                lines[STATE][lineCount] &= ~EMPTY;
                int rest = frames[NUMBER][frame];
                int point = quote ? '>' : rest == NONE ? '*' : '.';
                for (int k = size - 2; k >= 0; k--) {
                    boolean digit = k < size - 2;
                    if (column + k < frames[WIDTH][0]) {
                        cells[lineCount * WIDE_MOST + column + k] = digit ? '0' + rest % 10 : point;
                    }
                    rest /= digit ? 10 : 1;
                }
            }
            return column + size;
        }

        /** Puts the lines on sheets. */
        void fillPages(int high, int wide) {
            rows = high;
            columns = wide;
            sheetCount = 0;
            for (int f = 0; f < book.spineCount; f++) {
                int before = sheetCount;
                int used = 0;
                for (int k = parts[0][f]; k < parts[1][f]; k++) {
                    if (used == rows || used > 0 && endsSheet(k, parts[1][f], rows - used)) {
                        used = 0;
                    }
                    boolean empty = (lines[STATE][k] & EMPTY) != 0;
                    if (used == 0 && empty) {
                        lines[SHEET][k] = NONE;
                        continue;
                    }
                    if (used == 0) {
                        newSheet(f, k);
                    }
                    used++;
                    sheets[COUNT][sheetCount - 1] = used;
                    lines[SHEET][k] = sheetCount - 1;
                }
                if (sheetCount == before) {
                    newSheet(f, 0);
                }
                parts[2][f] = sheetCount - 1;
            }
            laid = true;
        }

        private void newSheet(int f, int line) {
            sheets[FIRST][sheetCount] = line;
            sheets[COUNT][sheetCount] = 0;
            sheets[FILE][sheetCount] = f;
            sheetCount++;
        }

        /** Whether a heading begins with a line, for which and what belongs to it the sheet has no room. */
        private boolean endsSheet(int line, int stop, int left) {
            int need = lines[HEAD_SIZE][line];
            if (need == 0) {
                return false;
            }
            int k = line + need;
            while (k < stop && (lines[STATE][k] & EMPTY) != 0) {
                k++;
                need++;
            }
            need += k < stop ? 1 : 0;
            return need <= rows && need > left;
        }

        int cellTold(int sheet, int y, int x) {
            if (sheet < 0 || sheet >= sheetCount || y < 0 || y >= rows || x < 0 || x >= columns) {
                return NONE;
            }
            return y < sheets[COUNT][sheet] ? cells[(sheets[FIRST][sheet] + y) * WIDE_MOST + x] : 32;
        }

        int sheetTold(int sheet, int what) {
            if (sheet < 0 || sheet >= sheetCount) {
                return NONE;
            }
            return what == 0 ? sheets[FILE][sheet] : what == 1 ? sheets[COUNT][sheet] : NONE;
        }

        /** An element's PAGE. */
        int pageOf(int f, int e) {
            for (int k = marks[e]; k < parts[1][f]; k++) {
                if (lines[SHEET][k] != NONE && (lines[STATE][k] & BETWEEN) == 0) {
                    return lines[SHEET][k];
                }
            }
            return parts[2][f];
        }
    }
}
