/**
 * The head of a story file, versions 1 to 8: judged rule by rule, then held as
 * the memory that the story and its player change, each as far as it may.
 */
public final class ZHeads {
    public static final int NONE = -5, STATE = -11, OUTSIDE = -12, BARRED = -13, FULL = -14;

    private static final int MOST_BYTES = 600;
    private static final int HEAD_BYTES = 64;
    private static final int BYTE_MOST = 255;
    private static final int TWO_MOST = 65535;
    private static final int RULES = 15;
    private static final int BROKEN_BASE = -20;
    private static final int FIELDS = 18;
    private static final int SERIAL_FROM = 18;
    private static final int SERIAL_BYTES = 6;
    private static final int GLOBAL_WORDS = 240;
    private static final int GLOBAL_BYTES = 480;
    private static final int SUM_AT = 28;
    private static final int FLAGS_1_AT = 1;
    private static final int FLAGS_2_AT = 16;
    private static final int SETTINGS = 11;

    /** What a row answers for a byte that is not there. */
    private static final int MISSING = -1;

    /*
     * While isRead is true, the file is also what was READ: every change of it
     * ends that. So two rows are enough for file, what was READ and memory.
     */
    private final Row file;
    private final Row memory;
    private final Head head;
    private boolean isRead;
    private int brokenRule;

    public ZHeads() {
        file = new Row();
        memory = new Row();
        head = new Head(file);
        isRead = false;
        brokenRule = 0;
    }

    public int octet(int b) {
        return isByte(b) ? append(1, b) : OUTSIDE;
    }

    public int feed(long w, int n) {
        if (n < 1 || n > 8) {
            return OUTSIDE;
        }
        if (n > file.room()) {
            return FULL;
        }
        for (int k = n - 1; k >= 0; k--) {
            file.add((int) ((w >>> (8 * k)) & BYTE_MOST));
        }
        isRead = false;
        return file.count();
    }

    public int fill(int n, int b) {
        return n >= 1 && n <= MOST_BYTES && isByte(b) ? append(n, b) : OUTSIDE;
    }

    public int poke(int place, int b) {
        if (!file.has(place) || !isByte(b)) {
            return OUTSIDE;
        }
        int was = file.at(place);
        file.put(place, b);
        isRead = false;
        return was;
    }

    public int clear() {
        int had = file.count();
        file.empty();
        isRead = false;
        brokenRule = 0;
        return had;
    }

    public int read() {
        brokenRule = 0;
        for (int judged = 1; judged <= RULES && brokenRule == 0; judged++) {
            if (!head.holds(judged)) {
                brokenRule = judged;
            }
        }
        isRead = brokenRule == 0;
        if (!isRead) {
            return BROKEN_BASE - head.placeOf(brokenRule);
        }
        memory.copy(file);
        return head.version();
    }

    public int rule() {
        return brokenRule;
    }

    public int field(int what) {
        if (!isRead) {
            return STATE;
        }
        return what < 0 || what >= FIELDS ? OUTSIDE : head.term(what);
    }

    public int serial(int i) throws ArrayIndexOutOfBoundsException {
        if (!isRead) {
            return STATE;
        }
        if (i < 0 || i >= SERIAL_BYTES) {
            throw new ArrayIndexOutOfBoundsException("the serial has bytes 0 to 5");
        }
        return memory.at(SERIAL_FROM + i);
    }

    public int global(int k) throws ArrayIndexOutOfBoundsException {
        if (!isRead) {
            return STATE;
        }
        if (k < 0 || k >= GLOBAL_WORDS) {
            throw new ArrayIndexOutOfBoundsException("there are globals 0 to 239");
        }
        return (short) memory.two(head.globals() + 2 * k);
    }

    public int load(int place) throws ArrayIndexOutOfBoundsException {
        if (!isRead) {
            return STATE;
        }
        if (!memory.has(place)) {
            throw new ArrayIndexOutOfBoundsException("the place is not there");
        }
        return memory.at(place);
    }

    public int store(int place, int v) {
        if (!isRead) {
            return STATE;
        }
        if (place < HEAD_BYTES || place >= head.staticFrom()) {
            return BARRED;
        }
        int was = memory.at(place);
        memory.put(place, v);
        return was;
    }

    public int packed(int a, boolean text) {
        if (!isRead) {
            return STATE;
        }
        return isTwo(a) ? head.unpacked(a, text) : OUTSIDE;
    }

    public int first(int a, boolean text) throws ArrayIndexOutOfBoundsException {
        if (!isRead) {
            return STATE;
        }
        if (!isTwo(a)) {
            return OUTSIDE;
        }
        int place = head.unpacked(a, text);
        if (!memory.has(place)) {
            throw new ArrayIndexOutOfBoundsException("the packed place is not there");
        }
        return memory.at(place);
    }

    public int sum() {
        return isRead ? sumAsRead() : STATE;
    }

    public int agrees() {
        if (!isRead) {
            return STATE;
        }
        return sumAsRead() == file.two(SUM_AT) ? 1 : 0;
    }

    public int flag(int word, int bit, boolean on, boolean story) {
        if (!isRead) {
            return STATE;
        }
        if (!Rights.isFlag(word, bit)) {
            return OUTSIDE;
        }
        int version = head.version();
        if (word == 1 && !Rights.maySwitchFirst(version, bit, story)) {
            return BARRED;
        }
        if (word == 2 && !Rights.maySwitchSecond(version, bit, on, story)) {
            return BARRED;
        }
        int was = flagBit(word, bit);
        switchFlag(word, bit, on);
        return was;
    }

    public int isOn(int word, int bit) {
        if (!isRead) {
            return STATE;
        }
        return Rights.isFlag(word, bit) ? flagBit(word, bit) : OUTSIDE;
    }

    public int set(int what, int v) {
        if (!isRead) {
            return STATE;
        }
        if (what < 0 || what >= SETTINGS) {
            return OUTSIDE;
        }
        boolean wide = Rights.isWide(what);
        if (wide ? !isTwo(v) : !isByte(v)) {
            return OUTSIDE;
        }
        int version = head.version();
        if (version < Rights.settableFrom(what)) {
            return BARRED;
        }
        int place = Rights.settingPlace(what, version);
        int was = wide ? memory.two(place) : memory.at(place);
        if (wide) {
            memory.putTwo(place, v);
        } else {
            memory.put(place, v);
        }
        return was;
    }

    public int restart() {
        if (!isRead) {
            return STATE;
        }
        int differed = 0;
        int end = head.staticFrom();
        for (int place = HEAD_BYTES; place < end; place++) {
            if (memory.at(place) != file.at(place)) {
                differed++;
                memory.put(place, file.at(place));
            }
        }
        return differed;
    }

    public int sign(int i) throws ArrayIndexOutOfBoundsException {
        if (!isRead) {
            return STATE;
        }
        if (i < 0 || i >= head.signs()) {
            throw new ArrayIndexOutOfBoundsException("there is no such sign");
        }
        return file.at(head.words() + 1 + i);
    }

    public int ratio(boolean by) throws ArithmeticException {
        if (!isRead) {
            return STATE;
        }
        int divisor = by ? head.entries() : head.entryBytes();
        if (divisor == 0) {
            throw new ArithmeticException("there are 0 entries");
        }
        return head.length() / divisor;
    }

    public int size() {
        return file.count();
    }

    private static boolean isByte(int b) {
        return b >= 0 && b <= BYTE_MOST;
    }

    private static boolean isTwo(int v) {
        return v >= 0 && v <= TWO_MOST;
    }

    private int append(int n, int b) {
        if (n > file.room()) {
            return FULL;
        }
        for (int k = 0; k < n; k++) {
            file.add(b);
        }
        isRead = false;
        return file.count();
    }

    private int sumAsRead() {
        int total = 0;
        int end = head.length();
        for (int place = HEAD_BYTES; place < end; place++) {
            total += file.at(place);
        }
        return total & TWO_MOST;
    }

    private int flagBit(int word, int bit) {
        int bits = word == 1 ? memory.at(FLAGS_1_AT) : memory.two(FLAGS_2_AT);
        return (bits >> bit) & 1;
    }

    private void switchFlag(int word, int bit, boolean on) {
        int bits = word == 1 ? memory.at(FLAGS_1_AT) : memory.two(FLAGS_2_AT);
        int changed = on ? bits | (1 << bit) : bits & ~(1 << bit);
        if (word == 1) {
            memory.put(FLAGS_1_AT, changed);
        } else {
            memory.putTwo(FLAGS_2_AT, changed);
        }
    }

    /** A row of bytes, 0 to 255 each, that looks at every place before it goes there. */
    private static final class Row {
        private final int[] cells = new int[MOST_BYTES];
        private int count = 0;

        int count() {
            return count;
        }

        int room() {
            return MOST_BYTES - count;
        }

        boolean has(int place) {
            return place >= 0 && place < count && place < cells.length;
        }

        int at(int place) {
            return place >= 0 && place < count && place < cells.length ? cells[place] : MISSING;
        }

        int two(int place) {
            if (place < 0 || place >= count - 1 || place >= cells.length - 1) {
                return MISSING;
            }
            return cells[place] * 256 + cells[place + 1];
        }

        void put(int place, int v) {
            if (has(place)) {
                cells[place] = v & BYTE_MOST;
            }
        }

        void putTwo(int place, int v) {
            put(place, v >> 8);
            put(place + 1, v);
        }

        void add(int b) {
            if (count >= 0 && count < cells.length) {
                cells[count] = b;
                count++;
            }
        }

        void empty() {
            count = 0;
        }

        void copy(Row from) {
            if (from != null) {
                System.arraycopy(from.cells, 0, cells, 0, MOST_BYTES);
                count = from.count;
            }
        }
    }

    /**
     * What the document's words in capitals mean in a row of bytes. Each is worked
     * out anew: the judge asks for them in a row that may break any rule, where
     * MISSING, being below every bound, breaks the rule that needs it.
     */
    private static final class Head {
        private final Row row;

        Head(Row row) {
            this.row = row;
        }

        int version() {
            return row.at(0);
        }

        int scale() {
            int version = version();
            if (version <= 3) {
                return 2;
            }
            return version <= 5 ? 4 : 8;
        }

        int length() {
            int told = row.two(26);
            return told == 0 && version() <= 3 ? row.count() : told * scale();
        }

        int staticFrom() {
            return row.two(14);
        }

        int high() {
            return row.two(4);
        }

        int globals() {
            return row.two(12);
        }

        int objects() {
            return row.two(10);
        }

        int words() {
            return row.two(8);
        }

        int signs() {
            return row.at(words());
        }

        int entryBytes() {
            return row.at(words() + 1 + signs());
        }

        int entries() {
            return (short) row.two(words() + 2 + signs());
        }

        int shorts() {
            return version() == 1 ? 0 : row.two(24);
        }

        int start() {
            return version() == 6 ? 4 * row.two(6) + 8 * row.two(40) : row.two(6);
        }

        int letters() {
            return version() < 5 ? 0 : row.two(52);
        }

        int ends() {
            return version() < 5 ? 0 : row.two(46);
        }

        int more() {
            return version() < 5 ? 0 : row.two(54);
        }

        int moreWords() {
            int from = more();
            return from == 0 ? 0 : row.two(from);
        }

        int thirdWord() {
            int from = more();
            return from == 0 || row.two(from) < 3 ? 0 : row.two(from + 6);
        }

        int unpacked(int a, boolean text) {
            int version = version();
            if (version <= 3) {
                return 2 * a;
            }
            if (version <= 5) {
                return 4 * a;
            }
            return version == 8 ? 8 * a : 4 * a + 8 * row.two(text ? 42 : 40);
        }

        int term(int what) {
            switch (what) {
                case 0: return version();
                case 1: return length();
                case 2: return staticFrom();
                case 3: return high();
                case 4: return globals();
                case 5: return objects();
                case 6: return words();
                case 7: return shorts();
                case 8: return start();
                case 9: return letters();
                case 10: return ends();
                case 11: return moreWords();
                case 12: return thirdWord();
                case 13: return row.two(2);
                case 14: return row.two(SUM_AT);
                case 15: return entries();
                case 16: return entryBytes();
                default: return signs();
            }
        }

        /** Asked in the order of the rules: each may lean on those ahead of it. */
        boolean holds(int judged) {
            switch (judged) {
                case 1: return row.has(0);
                case 2: return isWithin(version(), 1, 8);
                case 3: return row.count() >= HEAD_BYTES;
                case 4: return isWithin(length(), HEAD_BYTES, row.count());
                case 5: return isWithin(staticFrom(), HEAD_BYTES, length());
                case 6: return isWithin(high(), staticFrom(), length());
                case 7: return fits(globals(), GLOBAL_BYTES, staticFrom());
                case 8: return fits(objects(), version() <= 3 ? 62 : 126, staticFrom());
                case 9: return wordsHold();
                case 10: return shorts() == 0 || fits(shorts(), version() == 2 ? 64 : 192, length());
                case 11: return isWithin(start(), HEAD_BYTES, length() - 1);
                case 12: return letters() == 0 || fits(letters(), 78, length());
                case 13: return ends() == 0 || endsHold();
                case 14: return more() == 0 || moreHolds();
                default: return thirdWord() == 0 || thirdHolds();
            }
        }

        int placeOf(int broken) {
            switch (broken) {
                case 3: return row.count();
                case 4: return 26;
                case 5: return 14;
                case 6: return 4;
                case 7: return 12;
                case 8: return 10;
                case 9: return 8;
                case 10: return 24;
                case 11: return 6;
                case 12: return 52;
                case 13: return 46;
                case 14: return 54;
                case 15: return more() + 6;
                default: return 0;
            }
        }

        private boolean wordsHold() {
            int from = words();
            int signs = row.at(from);
            if (from < HEAD_BYTES || signs == MISSING) {
                return false;
            }
            int entryBytes = row.at(from + 1 + signs);
            int told = row.two(from + 2 + signs);
            if (entryBytes < (version() <= 3 ? 4 : 6) || told == MISSING) {
                return false;
            }
            int entries = Math.abs((int) (short) told);
            return from + 4 + signs + entries * entryBytes <= length();
        }

        private boolean endsHold() {
            int from = ends();
            int end = length();
            if (from < HEAD_BYTES) {
                return false;
            }
            for (int place = from; place < end; place++) {
                if (row.at(place) == 0) {
                    return true;
                }
            }
            return false;
        }

        private boolean moreHolds() {
            int follow = moreWords();
            return follow != MISSING && fits(more(), 2 + 2 * follow, length());
        }

        private boolean thirdHolds() {
            int from = thirdWord();
            int n = row.at(from);
            return n != MISSING && fits(from, 1 + 2 * n, length());
        }

        private static boolean isWithin(int n, int least, int most) {
            return n >= least && n <= most;
        }

        private static boolean fits(int from, int bytes, int end) {
            return from >= HEAD_BYTES && from + bytes <= end;
        }
    }

    /** What the story and the player may change in the head. */
    private static final class Rights {
        private Rights() {
        }

        static boolean isFlag(int word, int bit) {
            if (word != 1 && word != 2) {
                return false;
            }
            return bit >= 0 && bit <= (word == 1 ? 7 : 15);
        }

        static boolean maySwitchFirst(int version, int bit, boolean story) {
            return !story && ((playerBits(version) >> bit) & 1) == 1;
        }

        private static int playerBits(int version) {
            switch (version) {
                case 1:
                case 2:
                case 3: return 0b0111_0000;
                case 4: return 0b1001_1100;
                case 6: return 0b1011_1111;
                default: return 0b1001_1101;
            }
        }

        static boolean maySwitchSecond(int version, int bit, boolean on, boolean story) {
            if (bit == 0) {
                return true;
            }
            if (bit == 1) {
                return story && version >= 3;
            }
            if (bit == 2) {
                return version == 6 && !(story && on);
            }
            if (story || on) {
                return false;
            }
            return bit <= 7 ? version >= 5 : bit == 8 && version == 6;
        }

        static boolean isWide(int what) {
            return what == 4 || what == 5 || what == 10;
        }

        static int settableFrom(int what) {
            if (what <= 3) {
                return 4;
            }
            return what <= 9 ? 5 : 1;
        }

        static int settingPlace(int what, int version) {
            switch (what) {
                case 4: return 34;
                case 5: return 36;
                case 6: return version == 5 ? 38 : 39;
                case 7: return version == 5 ? 39 : 38;
                case 8: return 44;
                case 9: return 45;
                case 10: return 50;
                default: return 30 + what;
            }
        }
    }
}
