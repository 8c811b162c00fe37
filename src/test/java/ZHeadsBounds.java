import java.util.Arrays;

/** Each sentence of the document that names a bound, but for the rules: the last that is taken, the first that is not. */
public final class ZHeadsBounds {
    private static final int LOW = Integer.MIN_VALUE;
    private static final int TOP = Integer.MAX_VALUE;

    private static void due(String call, int got, int want) {
        Checks.due(call, got, want);
    }

    private static int[] with(int[] row, int place, int v) {
        int[] changed = row.clone();
        Stories.two(changed, place, v);
        return changed;
    }

    private static ZHeads filled(int n, int b) {
        ZHeads x = new ZHeads();
        if (n > 0) {
            x.fill(n, b);
        }
        return x;
    }

    private static void newObjects() {
        Checks.says(1, "An empty FILE.");
        due("size()", new ZHeads().size(), 0);
        due("clear()", new ZHeads().clear(), 0);
        due("poke(0, 0)", new ZHeads().poke(0, 0), ZHeads.OUTSIDE);
        due("read()", new ZHeads().read(), -20);
        due("rule()", new ZHeads().rule(), 0);
        due("restart()", new ZHeads().restart(), ZHeads.STATE);
        due("fill(600, 0): all the room is there", new ZHeads().fill(600, 0), 600);
        Checks.says(1, "NONE = -5, STATE = -11, OUTSIDE = -12, BARRED = -13, FULL = -14");
        due("NONE", ZHeads.NONE, -5);
        due("STATE", ZHeads.STATE, -11);
        due("OUTSIDE", ZHeads.OUTSIDE, -12);
        due("BARRED", ZHeads.BARRED, -13);
        due("FULL", ZHeads.FULL, -14);
        Checks.says(1, "one object's FILE is not another's");
        ZHeads x = filled(3, 1);
        ZHeads y = new ZHeads();
        due("size() of the other", y.size(), 0);
        y.octet(9);
        due("poke(0, 0) of the first", x.poke(0, 0), 1);
    }

    private static void octets() {
        Checks.says(2, "THE FILE is a row of bytes, 0 .. 255");
        for (int b : new int[] {-1, 256, -256, 511, LOW, TOP}) {
            ZHeads x = new ZHeads();
            due("octet(" + b + ")", x.octet(b), ZHeads.OUTSIDE);
            due("size() then", x.size(), 0);
        }
        for (int b : new int[] {0, 1, 127, 128, 254, 255}) {
            ZHeads x = new ZHeads();
            due("octet(" + b + ")", x.octet(b), 1);
            due("the byte", x.poke(0, 0), b);
        }
        Checks.says(2, "600 at most: FULL");
        ZHeads x = filled(598, 3);
        due("octet(4) as the 599th", x.octet(4), 599);
        due("octet(5) as the 600th", x.octet(5), 600);
        due("octet(6) as the 601st", x.octet(6), ZHeads.FULL);
        due("size() then", x.size(), 600);
        due("the last byte", x.poke(599, 0), 5);
        due("the one ahead of it", x.poke(598, 0), 4);
        due("the first", x.poke(0, 0), 3);
    }

    private static void feeds() {
        Checks.says(3, "The lowest n bytes of w (1 .. 8) more, the highest of these first");
        for (long w : new long[] {0x0102030405060708L, 0x8182838485868788L, -1L, 0L, Long.MIN_VALUE, Long.MAX_VALUE}) {
            for (int n = 1; n <= 8; n++) {
                ZHeads x = new ZHeads();
                due("feed(" + w + ", " + n + ")", x.feed(w, n), n);
                for (int i = 0; i < n; i++) {
                    String text = String.format("%016x", w).substring(16 - 2 * n + 2 * i, 18 - 2 * n + 2 * i);
                    due("byte " + i + " of feed(" + w + ", " + n + ")", x.poke(i, 0), Integer.parseInt(text, 16));
                }
            }
        }
        Checks.says(3, "OUTSIDE: n");
        for (int n : new int[] {0, 9, -1, -8, 64, LOW, TOP}) {
            ZHeads x = new ZHeads();
            due("feed(1, " + n + ")", x.feed(1L, n), ZHeads.OUTSIDE);
            due("size() then", x.size(), 0);
        }
        Checks.says(3, "FULL (none comes)");
        for (int n = 1; n <= 8; n++) {
            ZHeads fits = filled(600 - n, 3);
            due("feed(.., " + n + ") that just fits", fits.feed(-1L, n), 600);
            due("the last byte", fits.poke(599, 0), 255);
            due("the byte ahead of what came", fits.poke(599 - n, 0), 3);
            ZHeads x = filled(601 - n, 3);
            due("feed(.., " + n + ") with a byte too many", x.feed(-1L, n), ZHeads.FULL);
            due("size() then", x.size(), 601 - n);
            due("octet(4) then", n == 1 ? 600 : x.octet(4), n == 1 ? 600 : 602 - n);
            due("the byte that came", n == 1 ? 4 : x.poke(601 - n, 0), 4);
        }
    }

    private static void fills() {
        Checks.says(4, "n bytes more (1 .. 600) that are b: SIZE");
        due("fill(1, 9)", filled(0, 0).fill(1, 9), 1);
        due("fill(599, 9)", filled(0, 0).fill(599, 9), 599);
        ZHeads x = new ZHeads();
        due("fill(600, 9)", x.fill(600, 9), 600);
        due("the first", x.poke(0, 0), 9);
        due("the last", x.poke(599, 0), 9);
        for (int b : new int[] {0, 255}) {
            ZHeads y = new ZHeads();
            due("fill(2, " + b + ")", y.fill(2, b), 2);
            due("its byte 1", y.poke(1, 7), b);
        }
        Checks.says(4, "OUTSIDE: n, b");
        int[][] outside = {{0, 0}, {601, 0}, {-1, 0}, {-600, 0}, {LOW, 0}, {TOP, 0}, {1, -1}, {1, 256}, {600, 256},
            {1, LOW}, {1, TOP}, {0, 256}, {601, -1}};
        for (int[] o : outside) {
            ZHeads y = new ZHeads();
            due("fill(" + o[0] + ", " + o[1] + ")", y.fill(o[0], o[1]), ZHeads.OUTSIDE);
            due("size() then", y.size(), 0);
        }
        Checks.says(4, "FULL (none comes)");
        ZHeads one = filled(1, 3);
        due("fill(600, 9) with room for 599", one.fill(600, 9), ZHeads.FULL);
        due("size() then", one.size(), 1);
        due("fill(599, 9) with room for 599", one.fill(599, 9), 600);
        due("fill(1, 9) with no room", one.fill(1, 9), ZHeads.FULL);
        due("the first byte", one.poke(0, 0), 3);
    }

    private static void pokes() {
        Checks.says(5, "Byte of THE FILE at a place becomes b: what it was");
        ZHeads x = filled(600, 128);
        int[] places = {0, 1, 598, 599};
        for (int place : places) {
            due("poke(" + place + ", 255)", x.poke(place, 255), 128);
            due("poke(" + place + ", 0)", x.poke(place, 0), 255);
            due("poke(" + place + ", 1)", x.poke(place, 1), 0);
        }
        due("a byte beside them", x.poke(2, 0), 128);
        due("size(): none came", x.size(), 600);
        Checks.says(5, "OUTSIDE: also the place");
        for (int size : new int[] {0, 1, 64, 599, 600}) {
            for (int place : new int[] {-1, size, size + 1, 600, LOW, TOP}) {
                due("poke(" + place + ", 0) of " + size, filled(size, 5).poke(place, 0), ZHeads.OUTSIDE);
            }
            if (size > 0) {
                due("poke(" + (size - 1) + ", 0) of " + size, filled(size, 5).poke(size - 1, 0), 5);
            }
        }
        Checks.says(5, "OUTSIDE (a number is not as told): b");
        for (int b : new int[] {-1, 256, LOW, TOP}) {
            ZHeads y = filled(1, 5);
            due("poke(0, " + b + ")", y.poke(0, b), ZHeads.OUTSIDE);
            due("the byte is as it was", y.poke(0, 0), 5);
        }
    }

    private static void endsOfRead() {
        Checks.says(5, "bytes that come to it, poke() and clear() end that");
        int[] row = with(Stories.least(3), 26, 0);
        for (int way = 0; way < 5; way++) {
            ZHeads x = Stories.read(row);
            x.store(64, 9);
            int got = way == 0 ? x.octet(0) : way == 1 ? x.feed(0L, 8) : way == 2 ? x.fill(56, 0)
                : way == 3 ? x.poke(0, 3) : x.clear();
            due("way " + way, got, new int[] {545, 552, 600, 3, 544}[way]);
            due("field(0) after way " + way, x.field(0), ZHeads.STATE);
            due("load(0) after way " + way, Checks.answer(() -> x.load(0)), ZHeads.STATE);
            if (way < 4) {
                due("read() after way " + way, x.read(), 3);
                due("load(64): THE MEMORY is as READ anew", Checks.answer(() -> x.load(64)), 0);
                due("field(1): the new SIZE", x.field(1), new int[] {545, 552, 600, 544}[way]);
            }
        }
        Checks.says(5, "what was READ ends, also by a byte that is the same");
        for (int place : new int[] {0, 63, 64, 543}) {
            ZHeads x = Stories.read(row);
            due("poke(" + place + ", the same)", x.poke(place, row[place]), row[place]);
            due("sum() then", x.sum(), ZHeads.STATE);
        }
        Checks.says(5, "Byte of THE FILE: not of THE MEMORY");
        ZHeads x = Stories.read(Stories.least(5));
        x.store(543, 9);
        x.set(0, 9);
        due("poke(543, 1)", x.poke(543, 1), 0);
        due("poke(30, 1)", x.poke(30, 1), 0);
    }

    private static void clears() {
        Checks.says(6, "THE FILE is empty: how many bytes it had.");
        for (int size : new int[] {0, 1, 63, 64, 599, 600}) {
            ZHeads x = filled(size, 5);
            due("clear() of " + size, x.clear(), size);
            due("size() then", x.size(), 0);
            due("clear() again", x.clear(), 0);
            due("poke(0, 0) then", x.poke(0, 0), ZHeads.OUTSIDE);
            due("fill(600, 6) then", x.fill(600, 6), 600);
            due("octet(0) then", x.octet(0), ZHeads.FULL);
            due("a byte then", x.poke(599, 0), 6);
        }
        Checks.says(6, "what was there ahead of it is not THERE");
        ZHeads x = Stories.read(Stories.full(3));
        x.clear();
        x.octet(3);
        due("read() of one byte", x.read(), -21);
        x.clear();
        due("read() of none", x.read(), -20);
    }

    private static void readAndMemory() {
        Checks.says(7, "What is READ is kept; THE MEMORY is that, as it was changed since.");
        ZHeads x = Stories.read(Stories.least(5));
        x.store(64, 1);
        x.set(4, 65535);
        x.flag(2, 0, true, true);
        due("read() again", x.read(), 5);
        due("load(64) is as READ", Checks.answer(() -> x.load(64)), 0);
        due("load(34) is as READ", Checks.answer(() -> x.load(34)), 0);
        due("isOn(2, 0) is as READ", x.isOn(2, 0), 0);
        due("restart() has nothing to do", x.restart(), 0);
        Checks.says(7, "READ means that it was judged and is sound");
        due("field(0) ahead of read()", Stories.made(Stories.least(5)).field(0), ZHeads.STATE);
        ZHeads y = Stories.read(Stories.least(5));
        y.poke(0, 9);
        due("read() of what is not sound", y.read(), -20);
        due("field(0) then", y.field(0), ZHeads.STATE);
        y.poke(0, 5);
        due("field(0) when mended, ahead of read()", y.field(0), ZHeads.STATE);
        due("read() when mended", y.read(), 5);
        due("field(0) then", y.field(0), 5);
    }

    private static void fieldNumbers() {
        Checks.says(9, "0 VERSION .. 17 signs of it. OUTSIDE.");
        for (int n = 1; n <= 8; n++) {
            ZHeads x = Stories.read(Stories.least(n));
            for (int what : new int[] {-1, 18, LOW, TOP}) {
                due("field(" + what + ")", x.field(what), ZHeads.OUTSIDE);
            }
            int[] least = {n, 544, 544, 544, 64, 64, 64, 0, 64, 0, 0, 0, 0, 0, 0, 0, n < 4 ? 4 : 6, 0};
            int[] full = {n, 600, 600, 600, 120, n < 4 ? 538 : 474, 596, n == 1 ? 0 : n == 2 ? 536 : 408,
                n == 6 ? 596 : 599, n < 5 ? 0 : 522, n < 5 ? 0 : 599, 0, 0, 0, 0, 0, n < 4 ? 4 : 6, 0};
            int[] apart = {n, 584, 552, 560, 64, 64, 64, 0, 64, 0, 0, 0, 0, 0, 0, 0, n < 4 ? 4 : 6, 0};
            ZHeads y = Stories.read(Stories.full(n));
            ZHeads z = Stories.read(Stories.apart(n));
            for (int what = 0; what <= 17; what++) {
                due("version " + n + ", the shortest: field(" + what + ")", x.field(what), least[what]);
                due("version " + n + ", the longest: field(" + what + ")", y.field(what), full[what]);
                due("version " + n + ", apart: field(" + what + ")", z.field(what), apart[what]);
            }
        }
        Checks.says(9, "7 SHORTS (VERSION 1: 0)");
        due("version 1", Stories.read(with(Stories.least(1), 24, 64)).field(7), 0);
        due("version 1, not sound from 2 on", Stories.read(with(Stories.least(1), 24, 63)).field(7), 0);
        due("version 2", Stories.read(with(Stories.least(2), 24, 64)).field(7), 64);
        Checks.says(9, "13 TWO at 2, 14 TWO at 28");
        for (int v : new int[] {0, 1, 255, 256, 32768, 65535}) {
            ZHeads x = Stories.read(with(with(Stories.least(3), 2, v), 28, 65535 - v));
            due("field(13)", x.field(13), v);
            due("field(14)", x.field(14), 65535 - v);
        }
    }

    private static int[] withMore(int version, int many, int third) {
        return with(with(with(Stories.apart(version), 54, 100), 100, many), 106, third);
    }

    private static void fieldsOfTables() {
        Checks.says(9, "11 how many words MORE has, 12 the third of them (0: there are not so many)");
        for (int n = 5; n <= 8; n++) {
            for (int many : new int[] {0, 1, 2, 3, 4, 241}) {
                ZHeads x = Stories.read(withMore(n, many, 200));
                due("version " + n + ", field(11) of " + many, x.field(11), many);
                due("version " + n + ", field(12) of " + many, x.field(12), many < 3 ? 0 : 200);
            }
            ZHeads none = Stories.read(with(withMore(n, 3, 200), 54, 0));
            due("version " + n + ", field(11) without MORE", none.field(11), 0);
            due("version " + n + ", field(12) without MORE", none.field(12), 0);
            due("version " + n + ", field(12) of a third that is 0", Stories.read(withMore(n, 3, 0)).field(12), 0);
            due("version " + n + ", the lowest third", Stories.read(withMore(n, 3, 64)).field(12), 64);
        }
        Checks.says(9, "9 to 12 ahead of VERSION 5: 0");
        for (int n = 1; n <= 8; n++) {
            int[] row = with(with(withMore(n, 3, 200), 52, 64), 46, 66);
            ZHeads x = Stories.read(row);
            due("version " + n + ", field(9)", x.field(9), n < 5 ? 0 : 64);
            due("version " + n + ", field(10)", x.field(10), n < 5 ? 0 : 66);
            due("version " + n + ", field(11)", x.field(11), n < 5 ? 0 : 3);
            due("version " + n + ", field(12)", x.field(12), n < 5 ? 0 : 200);
        }
        Checks.says(9, "15 how many entries WORDS has (below 0: unsorted), 16 how long one is, 17 signs of it");
        int[][] tables = {{0, 6, 0}, {0, 6, 1}, {0, 6, -1}, {0, 6, 86}, {0, 6, -86}, {0, 255, 2}, {0, 255, -2},
            {1, 255, 0}, {255, 6, 0}, {255, 7, -37}};
        for (int[] t : tables) {
            ZHeads x = Stories.read(withWords(5, t[0], t[1], t[2]));
            due("field(15)", x.field(15), t[2]);
            due("field(16)", x.field(16), t[1]);
            due("field(17)", x.field(17), t[0]);
        }
    }

    /** WORDS at 64, in bytes that the story may change; its signs are 255, 254 and so on. */
    private static int[] withWords(int version, int signs, int entry, int many) {
        int[] row = Stories.apart(version);
        row[64] = signs;
        for (int i = 0; i < signs; i++) {
            row[65 + i] = 255 - i;
        }
        row[65 + signs] = entry;
        return with(row, 66 + signs, many);
    }

    private static void serials() {
        Checks.says(10, "Byte i of the serial (18 .. 23).");
        int[] serial = {255, 128, 127, 1, 254, 99};
        for (int n = 1; n <= 8; n++) {
            int[] row = with(with(Stories.least(n), 16, 0x0102), 24, 0x0040);
            System.arraycopy(serial, 0, row, 18, 6);
            ZHeads x = Stories.read(row);
            for (int i = 0; i < 6; i++) {
                int at = i;
                due("serial(" + i + ")", Checks.answer(() -> x.serial(at)), serial[i]);
            }
        }
        Checks.says(10, "ArrayIndexOutOfBoundsException: i is not 0 .. 5.");
        ZHeads x = Stories.read(Stories.least(3));
        for (int i : new int[] {-1, 6, -18, 582, LOW, TOP}) {
            due("serial(" + i + ")", Checks.answer(() -> x.serial(i)), Checks.INDEX);
        }
        due("serial(0)", Checks.answer(() -> x.serial(0)), 0);
        due("serial(5)", Checks.answer(() -> x.serial(5)), 0);
    }

    private static void globals() {
        Checks.says(11, "GLOBAL k as THE MEMORY has it (as a short).");
        int[] shorts = {0, 1, -1, 32767, -32768, 255, 256, -256};
        for (int at : new int[] {64, 72}) {
            for (int k : new int[] {0, 1, 238, 239}) {
                ZHeads x = Stories.read(with(Stories.apart(3), 12, at));
                for (int s : shorts) {
                    x.store(at + 2 * k, s >> 8);
                    x.store(at + 2 * k + 1, s);
                    due("GLOBALS " + at + ", global(" + k + ")", Checks.answer(() -> x.global(k)), s);
                }
                x.restart();
                due("GLOBALS " + at + ", global(" + k + ") after restart()", Checks.answer(() -> x.global(k)),
                    at == 64 && k == 0 ? 4 : at == 64 && k == 1 ? 0 : 0x0707);
            }
        }
        Checks.says(11, "ArrayIndexOutOfBoundsException: k is not 0 .. 239.");
        for (int[] row : new int[][] {Stories.least(1), Stories.full(8), Stories.apart(5)}) {
            ZHeads x = Stories.read(row);
            for (int k : new int[] {-1, 240, -32, 241, LOW, TOP, 1 << 30, 1 << 31 | 5}) {
                due("global(" + k + ")", Checks.answer(() -> x.global(k)), Checks.INDEX);
            }
            int last = Stories.two(row, 12) + 478;
            due("global(239)", Checks.answer(() -> x.global(239)), Stories.two(row, last));
        }
    }

    private static void loads() {
        Checks.says(12, "Byte of THE MEMORY, as the plain row gives it.");
        int[] row = Stories.apart(3);
        row[1] = 255;
        row[583] = 254;
        row[584] = 253;
        row[599] = 128;
        ZHeads x = Stories.read(row);
        for (int place : new int[] {0, 1, 63, 64, 65, 551, 552, 559, 560, 583, 584, 598, 599}) {
            due("load(" + place + ")", Checks.answer(() -> x.load(place)), row[place]);
        }
        x.store(64, 255);
        due("load(64) as the story changed it", Checks.answer(() -> x.load(64)), 255);
        x.set(10, 0xFF80);
        due("load(50) as the player set it", Checks.answer(() -> x.load(50)), 255);
        due("load(51) as the player set it", Checks.answer(() -> x.load(51)), 128);
        x.flag(1, 4, false, false);
        due("load(1) as a flag changed it", Checks.answer(() -> x.load(1)), 239);
        Checks.says(12, "ArrayIndexOutOfBoundsException: it is not THERE (its place is below SIZE).");
        for (int size : new int[] {544, 545, 599, 600}) {
            ZHeads y = Stories.read(with(Arrays.copyOf(Stories.least(3), size), 26, 272));
            due("load(" + (size - 1) + ") of " + size, Checks.answer(() -> y.load(size - 1)), 0);
            for (int place : new int[] {size, size + 1, 600, -1, LOW, TOP}) {
                due("load(" + place + ") of " + size, Checks.answer(() -> y.load(place)), Checks.INDEX);
            }
        }
    }

    private static void stores() {
        Checks.says(13, "THE STORY may change bytes from 64 to ahead of STATIC, as it likes.");
        int[] statics = {544, 552, 600};
        int[][] rows = {Stories.least(3), Stories.apart(3), Stories.full(3)};
        for (int i = 0; i < 3; i++) {
            ZHeads x = Stories.read(rows[i]);
            int last = statics[i] - 1;
            due("store(63, 9)", x.store(63, 9), ZHeads.BARRED);
            due("load(63)", Checks.answer(() -> x.load(63)), rows[i][63]);
            due("store(64, 9)", x.store(64, 9), rows[i][64]);
            due("load(64)", Checks.answer(() -> x.load(64)), 9);
            due("store(" + last + ", 9)", x.store(last, 9), rows[i][last]);
            due("load(" + last + ")", Checks.answer(() -> x.load(last)), 9);
            due("store(" + (last + 1) + ", 9)", x.store(last + 1, 9), ZHeads.BARRED);
            for (int place : new int[] {0, 1, 16, 17, 30, 62, 599}) {
                due("store(" + place + ", 9)", x.store(place, 9), place == last ? 9 : ZHeads.BARRED);
            }
        }
        Checks.says(13, "BARRED (also what is not THERE).");
        for (int[] row : rows) {
            ZHeads x = Stories.read(row);
            for (int place : new int[] {row.length, row.length + 1, 600, 601, -1, LOW, LOW + 64, TOP}) {
                due("store(" + place + ", 9)", x.store(place, 9), ZHeads.BARRED);
            }
            due("size() then", x.size(), row.length);
        }
        Checks.says(13, "the lowest eight bits of v: what it was");
        ZHeads x = Stories.read(Stories.least(3));
        int was = 0;
        for (int v : new int[] {0, 255, 256, -1, -256, -257, 511, LOW, TOP, 0x12345680}) {
            due("store(100, " + v + ")", x.store(100, v), was);
            was = v & 255;
            due("load(100)", Checks.answer(() -> x.load(100)), was);
        }
    }

    private static int place(int version, int a, int routine, int text, boolean isText) {
        if (version <= 3) {
            return 2 * a;
        }
        if (version == 6 || version == 7) {
            return 4 * a + 8 * (isText ? text : routine);
        }
        return version == 8 ? 8 * a : 4 * a;
    }

    private static void packedPlaces() {
        Checks.says(14, "PACKED a, 0 .. 65535: 2 a, 4 a, 4 a and 8 times TWO at 40, of a text at 42 (6, 7), 8 a (8)");
        for (int n = 1; n <= 8; n++) {
            for (int[] base : new int[][] {{0, 0}, {1, 2}, {8, 65535}, {n == 6 ? 59 : 65535, 0}}) {
                ZHeads x = Stories.read(with(with(Stories.least(n), 40, base[0]), 42, base[1]));
                for (int a : new int[] {0, 1, 255, 256, 32767, 32768, 65534, 65535}) {
                    String call = "version " + n + ", packed(" + a + ", ";
                    due(call + "false)", x.packed(a, false), place(n, a, base[0], base[1], false));
                    due(call + "true)", x.packed(a, true), place(n, a, base[0], base[1], true));
                }
            }
        }
        Checks.says(14, "OUTSIDE: a");
        for (int n = 1; n <= 8; n++) {
            ZHeads x = Stories.read(Stories.least(n));
            for (int a : new int[] {-1, 65536, -65536, LOW, TOP}) {
                due("packed(" + a + ", false)", x.packed(a, false), ZHeads.OUTSIDE);
                due("packed(" + a + ", true)", x.packed(a, true), ZHeads.OUTSIDE);
            }
        }
    }

    /** SIZE is such that the last place that can be PACKED is the last byte. */
    private static void firstBytes() {
        Checks.says(15, "The byte of THE MEMORY at a PACKED place; it is not THERE: ArrayIndexOutOfBoundsException");
        for (int n = 1; n <= 8; n++) {
            int step = n <= 3 ? 2 : n == 8 ? 8 : 4;
            int[] row = with(with(Arrays.copyOf(Stories.least(n), 545), 40, n == 6 ? 59 : 66), 42, 68);
            row[544] = 255;
            ZHeads x = Stories.read(row);
            boolean based = n == 6 || n == 7;
            int last = based ? (544 - 8 * row[41]) / 4 : 544 / step;
            int lastText = based ? 0 : last;
            due("version " + n + ", first(last, false)", Checks.answer(() -> x.first(last, false)), 255);
            due("version " + n + ", first(last + 1, false)", Checks.answer(() -> x.first(last + 1, false)), Checks.INDEX);
            due("version " + n + ", first(last, true)", Checks.answer(() -> x.first(lastText, true)), 255);
            due("version " + n + ", first(last + 1, true)", Checks.answer(() -> x.first(lastText + 1, true)), Checks.INDEX);
            due("version " + n + ", first(0, false)", Checks.answer(() -> x.first(0, false)), based ? row[8 * row[41]] : n);
            due("version " + n + ", first(65535, false)", Checks.answer(() -> x.first(65535, false)), Checks.INDEX);
            due("version " + n + ", first(65535, true)", Checks.answer(() -> x.first(65535, true)), Checks.INDEX);
            ZHeads y = Stories.read(Stories.least(n));
            due("version " + n + ", first at SIZE", Checks.answer(() -> y.first(544 / step, false)), Checks.INDEX);
            y.store(544 - step, 254);
            due("version " + n + ", as changed", Checks.answer(() -> y.first(544 / step - 1, true)), 254);
        }
        Checks.says(15, "OUTSIDE: a");
        for (int n = 1; n <= 8; n++) {
            ZHeads x = Stories.read(Stories.least(n));
            for (int a : new int[] {-1, 65536, LOW, TOP}) {
                due("first(" + a + ", false)", Checks.answer(() -> x.first(a, false)), ZHeads.OUTSIDE);
                due("first(" + a + ", true)", Checks.answer(() -> x.first(a, true)), ZHeads.OUTSIDE);
            }
        }
    }

    /** The shortest story, but as much as it may be 255, so that its sum can be any number up to 121,000. */
    private static int[] summed(int total) {
        int[] row = Stories.least(3);
        int left = total - row[65];
        for (int place = 68; place < 544 && left > 0; place++) {
            row[place] = Math.min(255, left);
            left -= row[place];
        }
        return row;
    }

    private static void sums() {
        Checks.says(16, "modulo 65536");
        for (int total : new int[] {4, 5, 65534, 65535, 65536, 65537, 121_000}) {
            due("sum() of " + total, Stories.read(summed(total)).sum(), total % 65536);
        }
        Checks.says(16, "that of the bytes READ from 64 to ahead of THE LENGTH");
        int[] row = Stories.apart(3);
        int want = Stories.read(row).sum();
        due("the bytes of the story itself", want, 4 + 7 * (584 - 68));
        int[][] changes = {{63, 0}, {64, 0}, {65, 1}, {583, 1}, {584, 0}, {599, 0}};
        for (int[] c : changes) {
            int[] more = row.clone();
            more[c[0]]++;
            if (c[0] == 64) {
                more = withWords(3, 1, 4, 0);
                due("sum() with another byte at 64", Stories.read(more).sum(), 1 + 255 + 4 + 7 * (584 - 69));
            } else {
                due("sum() with one more at " + c[0], Stories.read(more).sum(), want + c[1]);
            }
        }
        due("sum() where no length is told", Stories.read(with(row, 26, 0)).sum(), 4 + 7 * (600 - 68));
        due("sum() of nothing but 0", Stories.read(Stories.least(8)).sum(), 6);
        ZHeads x = Stories.read(row);
        x.store(64, 1);
        x.store(551, 255);
        due("sum() of a changed memory: as READ", x.sum(), want);
        Checks.says(17, "Whether THE SUM is TWO at 28, as READ: 1, 0.");
        for (int total : new int[] {4, 65535, 65536, 65537}) {
            int sum = total % 65536;
            due("agrees()", Stories.read(with(summed(total), 28, sum)).agrees(), 1);
            due("agrees() with one less", Stories.read(with(summed(total), 28, sum - 1)).agrees(), 0);
            due("agrees() with one more", Stories.read(with(summed(total), 28, sum + 1)).agrees(), 0);
        }
        ZHeads y = Stories.read(with(row, 28, want));
        y.store(100, 8);
        due("agrees() of a changed memory: as READ", y.agrees(), 1);
        y.restart();
        due("agrees() after restart()", y.agrees(), 1);
    }

    private static void flagNumbers() {
        Checks.says(18, "OUTSIDE: word (1, 2), bit (word 1: 0 .. 7, word 2: 0 .. 15)");
        int[][] outside = {{0, 0}, {3, 0}, {-1, 0}, {LOW, 0}, {TOP, 0}, {1, -1}, {1, 8}, {1, 15}, {1, 32}, {1, LOW},
            {1, TOP}, {2, -1}, {2, 16}, {2, 32}, {2, LOW}, {2, TOP}};
        for (int n = 1; n <= 8; n++) {
            ZHeads x = Stories.read(Stories.least(n));
            for (int[] o : outside) {
                for (int way = 0; way < 4; way++) {
                    due("flag(" + o[0] + ", " + o[1] + ", ..)", x.flag(o[0], o[1], way > 1, way % 2 == 1), ZHeads.OUTSIDE);
                }
            }
            due("flag(1, 7, ..) by THE PLAYER", x.flag(1, 7, true, false), n < 4 ? ZHeads.BARRED : 0);
            due("flag(1, 0, ..) by THE PLAYER", x.flag(1, 0, true, false), n < 5 ? ZHeads.BARRED : 0);
            due("flag(2, 0, ..)", x.flag(2, 0, true, true), 0);
            due("flag(2, 15, ..)", x.flag(2, 15, true, true), ZHeads.BARRED);
        }
        Checks.says(19, "Whether a FLAG is on: 1, 0. OUTSIDE.");
        for (int n = 1; n <= 8; n++) {
            int[] row = with(Stories.least(n), 16, 0x8001);
            row[1] = 0x81;
            ZHeads x = Stories.read(row);
            for (int[] o : outside) {
                due("isOn(" + o[0] + ", " + o[1] + ")", x.isOn(o[0], o[1]), ZHeads.OUTSIDE);
            }
            for (int bit = 0; bit < 8; bit++) {
                due("isOn(1, " + bit + ")", x.isOn(1, bit), bit == 0 || bit == 7 ? 1 : 0);
            }
            for (int bit = 0; bit < 16; bit++) {
                due("isOn(2, " + bit + ")", x.isOn(2, bit), bit == 0 || bit == 15 ? 1 : 0);
            }
        }
    }

    /** Four letters for THE PLAYER on, off, THE STORY on, off: '+' may. */
    private static void rights(int version, int word, int bit, String rights) {
        for (int was = 0; was < 2; was++) {
            for (int way = 0; way < 4; way++) {
                boolean on = way % 2 == 0;
                int[] row = Stories.least(version);
                row[1] = was == 1 ? 255 : 0;
                Stories.two(row, 16, was == 1 ? 65535 : 0);
                ZHeads x = Stories.read(row);
                boolean may = rights.charAt(way) == '+';
                String call = "version " + version + ", was " + was + ", flag(" + word + ", " + bit + ", " + on + ", "
                    + (way > 1) + ")";
                due(call, x.flag(word, bit, on, way > 1), may ? was : ZHeads.BARRED);
                int now = may ? (on ? 1 : 0) : was;
                due("isOn after " + call, x.isOn(word, bit), now);
                int first = word == 1 && now != was ? row[1] ^ 1 << bit : row[1];
                int second = word == 2 && now != was ? Stories.two(row, 16) ^ 1 << bit : Stories.two(row, 16);
                due("load(1) after " + call, Checks.answer(() -> x.load(1)), first);
                due("load(16) after " + call, Checks.answer(() -> x.load(16)), second >> 8);
                due("load(17) after " + call, Checks.answer(() -> x.load(17)), second & 255);
            }
        }
    }

    private static void flagRights() {
        Checks.says(18, "Of word 1 THE PLAYER may change 4, 5, 6 / 2, 3, 4, 7 / 0, 2, 3, 4, 7 / 0 .. 5 and 7; THE STORY none");
        String[] first = {"", "....+++.", "....+++.", "....+++.", "..+++..+", "+.+++..+", "++++++.+", "+.+++..+", "+.+++..+"};
        for (int n = 1; n <= 8; n++) {
            for (int bit = 0; bit < 8; bit++) {
                rights(n, 1, bit, first[n].charAt(bit) == '+' ? "++.." : "....");
            }
        }
        Checks.says(18, "Of word 2 both may change 0; THE STORY 1 from VERSION 3 on; 2 (6); take away 3 .. 7 from 5 on, 8 (6)");
        for (int n = 1; n <= 8; n++) {
            rights(n, 2, 0, "++++");
            rights(n, 2, 1, n < 3 ? "...." : "..++");
            rights(n, 2, 2, n == 6 ? "++.+" : "....");
            for (int bit = 3; bit <= 7; bit++) {
                rights(n, 2, bit, n < 5 ? "...." : ".+..");
            }
            rights(n, 2, 8, n == 6 ? ".+.." : "....");
            for (int bit = 9; bit <= 15; bit++) {
                rights(n, 2, bit, "....");
            }
        }
        Checks.says(18, "BARRED (also where it is so already)");
        ZHeads x = Stories.read(Stories.least(3));
        due("flag(2, 15, false, true), which is off", x.flag(2, 15, false, true), ZHeads.BARRED);
        due("flag(2, 0, false, true), which is off and may be", x.flag(2, 0, false, true), 0);
        due("flag(2, 0, true, true)", x.flag(2, 0, true, true), 0);
        due("flag(2, 0, true, true), which is on and may be", x.flag(2, 0, true, true), 1);
        due("flag(2, 0, false, false)", x.flag(2, 0, false, false), 1);
    }

    /** All that THE PLAYER may change in version 6, one after the other: each keeps what the ones ahead of it did. */
    private static void flagsTogether() {
        Checks.says(18, "A FLAG is on, or off: what it was (1, 0), and the other FLAGS stay");
        int[] row = with(Stories.least(6), 16, 0xFFFC);
        row[1] = 0x40;
        ZHeads x = Stories.read(row);
        int first = 0x40;
        for (int bit : new int[] {0, 1, 2, 3, 4, 5, 7}) {
            due("flag(1, " + bit + ", true, false)", x.flag(1, bit, true, false), 0);
            first |= 1 << bit;
            due("load(1)", Checks.answer(() -> x.load(1)), first);
        }
        for (int bit : new int[] {7, 5, 4, 3, 2, 1, 0}) {
            due("flag(1, " + bit + ", false, false)", x.flag(1, bit, false, false), 1);
            first -= 1 << bit;
            due("load(1)", Checks.answer(() -> x.load(1)), first);
        }
        int second = 0xFFFC;
        for (int bit = 2; bit <= 8; bit++) {
            due("flag(2, " + bit + ", false, false)", x.flag(2, bit, false, false), 1);
            second -= 1 << bit;
            due("load(16)", Checks.answer(() -> x.load(16)), second >> 8);
            due("load(17)", Checks.answer(() -> x.load(17)), second & 255);
        }
        due("flag(2, 0, true, true)", x.flag(2, 0, true, true), 0);
        due("flag(2, 1, true, true)", x.flag(2, 1, true, true), 0);
        due("load(16) at last", Checks.answer(() -> x.load(16)), 0xFE);
        due("load(17) at last", Checks.answer(() -> x.load(17)), 3);
    }

    private static final int[] SET_AT = {30, 31, 32, 33, 34, 36, 39, 38, 44, 45, 50};

    private static boolean isWide(int what) {
        return what == 4 || what == 5 || what == 10;
    }

    private static void sets() {
        Checks.says(20, "OUTSIDE: what (0 to 10), v (a byte, or TWO)");
        for (int n = 1; n <= 8; n++) {
            ZHeads x = Stories.read(Stories.least(n));
            for (int what : new int[] {-1, 11, LOW, TOP}) {
                due("set(" + what + ", 0)", x.set(what, 0), ZHeads.OUTSIDE);
            }
            for (int what = 0; what <= 10; what++) {
                int most = isWide(what) ? 65535 : 255;
                for (int v : new int[] {-1, most + 1, LOW, TOP}) {
                    due("version " + n + ", set(" + what + ", " + v + ")", x.set(what, v), ZHeads.OUTSIDE);
                }
                boolean may = what == 10 || n > 4 || n == 4 && what < 4;
                due("version " + n + ", set(" + what + ", most)", x.set(what, most), may ? 0 : ZHeads.BARRED);
                due("version " + n + ", set(" + what + ", 0)", x.set(what, 0), may ? most : ZHeads.BARRED);
                due("version " + n + ", set(" + what + ", 1)", x.set(what, 1), may ? 0 : ZHeads.BARRED);
            }
        }
        Checks.says(20, "0 its number (at 30) .. 10 the standard (TWO at 50); 6 (39; VERSION 5: 38), 7 (38; VERSION 5: 39)");
        for (int n = 1; n <= 8; n++) {
            for (int what = 0; what <= 10; what++) {
                boolean may = what == 10 || n > 4 || n == 4 && what < 4;
                int at = n == 5 && what == 6 ? 38 : n == 5 && what == 7 ? 39 : SET_AT[what];
                setOne(n, what, at, may);
            }
        }
    }

    private static void setOne(int version, int what, int at, boolean may) {
        int[] row = Stories.least(version);
        for (int place : SET_AT) {
            row[place] = 170 + place;
        }
        row[35] = 1;
        row[37] = 2;
        row[51] = 3;
        ZHeads x = Stories.read(row);
        int v = isWide(what) ? 0xFE01 : 0xFE;
        int was = isWide(what) ? Stories.two(row, at) : row[at];
        due("version " + version + ", set(" + what + ", " + v + ")", x.set(what, v), may ? was : ZHeads.BARRED);
        if (may) {
            row[at] = 0xFE;
            row[at + 1] = isWide(what) ? 1 : row[at + 1];
        }
        for (int place = 0; place < 70; place++) {
            int p = place;
            due("version " + version + ", load(" + p + ") after set(" + what + ", ..)", Checks.answer(() -> x.load(p)), row[p]);
        }
    }

    private static void restarts() {
        Checks.says(21, "Bytes from 64 to ahead of STATIC are as READ again: how many differed.");
        ZHeads x = Stories.read(Stories.least(5));
        due("restart() of nothing changed", x.restart(), 0);
        x.store(64, 1);
        due("restart() of the first byte", x.restart(), 1);
        due("load(64)", Checks.answer(() -> x.load(64)), 0);
        x.store(543, 1);
        due("restart() of the last byte", x.restart(), 1);
        due("load(543)", Checks.answer(() -> x.load(543)), 0);
        x.store(100, 0);
        due("restart() of a byte stored as it was", x.restart(), 0);
        x.store(100, 1);
        x.store(100, 0);
        due("restart() of a byte that was stored back", x.restart(), 0);
        x.store(100, 1);
        x.store(100, 2);
        due("restart() of a byte that changed twice", x.restart(), 1);
        due("restart() again", x.restart(), 0);
        x.set(0, 9);
        x.set(4, 65535);
        x.flag(1, 0, true, false);
        x.flag(2, 0, true, true);
        due("restart() of what stands ahead of 64", x.restart(), 0);
        due("load(30)", Checks.answer(() -> x.load(30)), 9);
        due("load(34)", Checks.answer(() -> x.load(34)), 255);
        due("isOn(1, 0)", x.isOn(1, 0), 1);
        due("isOn(2, 0)", x.isOn(2, 0), 1);
        Checks.says(21, "how many differed: all of them");
        ZHeads y = Stories.read(Stories.least(3));
        for (int place = 64; place < 544; place++) {
            y.store(place, 255);
        }
        due("restart() of 480 bytes", y.restart(), 480);
        due("load(65)", Checks.answer(() -> y.load(65)), 4);
        due("restart() again", y.restart(), 0);
    }

    private static void signs() {
        Checks.says(22, "Sign i of those of WORDS (as READ; a byte). ArrayIndexOutOfBoundsException: there is none such.");
        for (int signs : new int[] {0, 1, 2, 3, 254, 255}) {
            ZHeads x = Stories.read(withWords(4, signs, 6, 0));
            for (int i : new int[] {-1, signs, signs + 1, 255, 256, LOW, TOP}) {
                due("sign(" + i + ") of " + signs, Checks.answer(() -> x.sign(i)), Checks.INDEX);
            }
            for (int i : new int[] {0, 1, 2, 253, 254}) {
                due("sign(" + i + ") of " + signs, Checks.answer(() -> x.sign(i)), i < signs ? 255 - i : Checks.INDEX);
            }
        }
        Checks.says(22, "as READ");
        ZHeads x = Stories.read(withWords(4, 2, 6, 0));
        x.store(64, 200);
        x.store(65, 1);
        x.store(66, 2);
        due("sign(0)", Checks.answer(() -> x.sign(0)), 255);
        due("sign(1)", Checks.answer(() -> x.sign(1)), 254);
        due("sign(2)", Checks.answer(() -> x.sign(2)), Checks.INDEX);
        x.store(64, 0);
        due("sign(1) though the story says 0", Checks.answer(() -> x.sign(1)), 254);
    }

    private static void ratios() {
        Checks.says(23, "THE LENGTH by how long an entry of WORDS is, cut");
        int[][] byEntry = {{4, 146}, {5, 116}, {6, 97}, {7, 83}, {73, 8}, {146, 4}, {147, 3}, {255, 2}};
        for (int[] e : byEntry) {
            ZHeads x = Stories.read(withWords(3, 0, e[0], 1));
            due("584 by " + e[0], Checks.answer(() -> x.ratio(false)), e[1]);
        }
        Checks.says(23, "by = true: by how many there are (as it is told, with its sign)");
        int[][] byMany = {{1, 584}, {-1, -584}, {2, 292}, {-2, -292}, {3, 194}, {-3, -194}, {5, 116}, {-5, -116},
            {86, 6}, {-86, -6}, {129, 4}, {-129, -4}};
        for (int[] m : byMany) {
            ZHeads x = Stories.read(withWords(3, 0, 4, m[0]));
            due("584 by " + m[0], Checks.answer(() -> x.ratio(true)), m[1]);
        }
        Checks.says(23, "ArithmeticException: there are 0.");
        for (int n = 1; n <= 8; n++) {
            ZHeads x = Stories.read(withWords(n, 0, 6, 0));
            due("ratio(true) of none", Checks.answer(() -> x.ratio(true)), Checks.ARITHMETIC);
            due("ratio(false) of none", Checks.answer(() -> x.ratio(false)), 97);
            due("ratio(true) of none, again", Checks.answer(() -> x.ratio(true)), Checks.ARITHMETIC);
        }
        Checks.says(23, "THE LENGTH at its bounds");
        ZHeads least = Stories.read(Stories.least(3));
        due("544 by 4", Checks.answer(() -> least.ratio(false)), 136);
        ZHeads full = Stories.read(Stories.full(3));
        due("600 by 4", Checks.answer(() -> full.ratio(false)), 150);
    }

    private static void sizes() {
        Checks.says(24, "SIZE: 600 at most");
        for (int size : new int[] {0, 1, 599, 600}) {
            ZHeads x = filled(size, 0);
            due("size() of " + size, x.size(), size);
            x.octet(0);
            due("size() of one more", x.size(), Math.min(600, size + 1));
            x.clear();
            due("size() of none", x.size(), 0);
        }
        Checks.says(24, "SIZE is how many: not THE LENGTH, and of THE FILE also when it is not READ");
        ZHeads x = Stories.made(Stories.apart(3));
        due("size() ahead of read()", x.size(), 600);
        x.read();
        due("size() when READ, where THE LENGTH is 584", x.size(), 600);
        x.store(64, 1);
        x.restart();
        x.poke(0, 9);
        x.read();
        due("size() of what is not sound", x.size(), 600);
    }

    public static void main(String[] args) {
        newObjects();
        octets();
        feeds();
        fills();
        pokes();
        endsOfRead();
        clears();
        readAndMemory();
        Checks.says(8, "0: .. there was none since clear()");
        due("rule() of an empty FILE", new ZHeads().rule(), 0);
        fieldNumbers();
        fieldsOfTables();
        serials();
        globals();
        loads();
        stores();
        packedPlaces();
        firstBytes();
        sums();
        flagNumbers();
        flagRights();
        flagsTogether();
        sets();
        restarts();
        signs();
        ratios();
        sizes();
        Checks.end(1, 24);
    }
}
