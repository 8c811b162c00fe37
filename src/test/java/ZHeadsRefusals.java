import java.util.function.Supplier;
import java.util.function.ToIntFunction;

/**
 * "Refused, and nothing changes: STATE, OUTSIDE, BARRED, FULL; the first of these that fits": each refusal and each
 * exception alone and where two fit at once, in every kind of state. That nothing changed is seen by a twin that was
 * not asked: all that the two tell then is the same.
 */
public final class ZHeadsRefusals {
    private static final int LOW = Integer.MIN_VALUE;
    private static final int TOP = Integer.MAX_VALUE;
    private static final int VIEWS = 9;

    /** A kind of state, made anew for each view, so that no object comes near its 512th call. */
    private static final class Kind {
        final String name;
        final Supplier<ZHeads> made;

        Kind(String name, Supplier<ZHeads> made) {
            this.name = name;
            this.made = made;
        }
    }

    private static void refused(Kind kind, String name, ToIntFunction<ZHeads> call, int want) {
        for (int view = 0; view < VIEWS; view++) {
            ZHeads asked = kind.made.get();
            ZHeads twin = kind.made.get();
            Checks.due(kind.name + ": " + name, Checks.answer(() -> call.applyAsInt(asked)), want);
            int n = view == 0 ? 62 : view == 7 ? 21 : view == 8 ? 6 : 200;
            for (int k = 0; k < n; k++) {
                int v = view;
                int i = k;
                int told = Checks.answer(() -> tell(asked, v, i));
                Checks.due(kind.name + ": after " + name + ", view " + v + ", number " + i, told,
                    Checks.answer(() -> tell(twin, v, i)));
            }
        }
    }

    /** Number k of what can be told of an object in a view: all its answers, its bytes, its next judgement, its room. */
    private static int tell(ZHeads x, int view, int k) {
        switch (view) {
            case 0: return tellAnswer(x, k);
            case 1:
            case 2:
            case 3: return x.load(200 * (view - 1) + k);
            case 4:
            case 5:
            case 6: return x.poke(200 * (view - 4) + k, 0);
            case 7: return k == 0 ? x.rule() : k == 1 ? x.read() : k == 2 ? x.rule() : x.field(k - 3);
            default: return k == 0 ? x.size() : k == 1 ? x.octet(1) : k == 2 ? x.feed(-1L, 8) : k == 3 ? x.fill(40, 5)
                : k == 4 ? x.rule() : x.clear();
        }
    }

    private static int tellAnswer(ZHeads x, int k) {
        if (k < 18) {
            return x.field(k);
        }
        if (k < 26) {
            return x.isOn(1, k - 18);
        }
        if (k < 42) {
            return x.isOn(2, k - 26);
        }
        if (k < 48) {
            return x.serial(k - 42);
        }
        switch (k) {
            case 48: return x.size();
            case 49: return x.rule();
            case 50: return x.sum();
            case 51: return x.agrees();
            case 52: return x.sign(0);
            case 53: return x.ratio(true);
            case 54: return x.ratio(false);
            case 55: return x.packed(1, true);
            case 56: return x.first(1, false);
            case 57: return x.global(0);
            case 58: return x.global(239);
            case 59: return x.set(10, 1);
            case 60: return x.flag(2, 0, true, true);
            default: return x.restart();
        }
    }

    private static ZHeads changed(int[] row) {
        ZHeads x = Stories.read(row);
        x.store(64, 3);
        x.store(300, 255);
        x.store(543, 200);
        x.set(0, 6);
        x.set(4, 640);
        x.set(10, 0x0102);
        x.flag(1, 4, true, false);
        x.flag(2, 0, true, true);
        return x;
    }

    private static ZHeads broken() {
        int[] row = Stories.apart(6);
        Stories.two(row, 12, 63);
        ZHeads x = Stories.made(row);
        x.read();
        return x;
    }

    private static ZHeads poked() {
        ZHeads x = changed(Stories.apart(5));
        x.poke(70, 1);
        return x;
    }

    private static Kind[] notRead() {
        return new Kind[] {
            new Kind("empty", ZHeads::new),
            new Kind("one byte", () -> Stories.made(new int[] {5})),
            new Kind("not judged", () -> Stories.made(Stories.apart(6))),
            new Kind("broken", ZHeadsRefusals::broken),
            new Kind("poked", ZHeadsRefusals::poked)};
    }

    private static Kind read(int version) {
        return new Kind("version " + version + " READ", () -> changed(Stories.apart(version)));
    }

    private static Kind readShort(int version) {
        return new Kind("version " + version + " READ, 544 bytes", () -> changed(Stories.least(version)));
    }

    private static void stateAlone(Kind kind) {
        Checks.says(9, "STATE alone");
        refused(kind, "field(0)", x -> x.field(0), ZHeads.STATE);
        refused(kind, "field(17)", x -> x.field(17), ZHeads.STATE);
        Checks.says(10, "STATE alone");
        refused(kind, "serial(0)", x -> x.serial(0), ZHeads.STATE);
        Checks.says(11, "STATE alone");
        refused(kind, "global(0)", x -> x.global(0), ZHeads.STATE);
        Checks.says(12, "STATE alone");
        refused(kind, "load(0)", x -> x.load(0), ZHeads.STATE);
        Checks.says(13, "STATE alone");
        refused(kind, "store(64, 9)", x -> x.store(64, 9), ZHeads.STATE);
        Checks.says(14, "STATE alone");
        refused(kind, "packed(0, true)", x -> x.packed(0, true), ZHeads.STATE);
        refused(kind, "packed(65535, false)", x -> x.packed(65535, false), ZHeads.STATE);
        Checks.says(15, "STATE alone");
        refused(kind, "first(0, true)", x -> x.first(0, true), ZHeads.STATE);
        Checks.says(16, "STATE alone");
        refused(kind, "sum()", ZHeads::sum, ZHeads.STATE);
        Checks.says(17, "STATE alone");
        refused(kind, "agrees()", ZHeads::agrees, ZHeads.STATE);
        Checks.says(18, "STATE alone");
        refused(kind, "flag(2, 0, true, true)", x -> x.flag(2, 0, true, true), ZHeads.STATE);
        refused(kind, "flag(2, 0, false, false)", x -> x.flag(2, 0, false, false), ZHeads.STATE);
        Checks.says(19, "STATE alone");
        refused(kind, "isOn(1, 0)", x -> x.isOn(1, 0), ZHeads.STATE);
        Checks.says(20, "STATE alone");
        refused(kind, "set(10, 9)", x -> x.set(10, 9), ZHeads.STATE);
        Checks.says(21, "STATE alone");
        refused(kind, "restart()", ZHeads::restart, ZHeads.STATE);
        Checks.says(22, "STATE alone");
        refused(kind, "sign(0)", x -> x.sign(0), ZHeads.STATE);
        Checks.says(23, "STATE alone");
        refused(kind, "ratio(false)", x -> x.ratio(false), ZHeads.STATE);
    }

    private static void stateFirst(Kind kind) {
        Checks.says(9, "STATE goes ahead of OUTSIDE");
        refused(kind, "field(-1)", x -> x.field(-1), ZHeads.STATE);
        refused(kind, "field(18)", x -> x.field(18), ZHeads.STATE);
        Checks.says(10, "STATE goes ahead of the exception");
        refused(kind, "serial(-1)", x -> x.serial(-1), ZHeads.STATE);
        refused(kind, "serial(6)", x -> x.serial(6), ZHeads.STATE);
        Checks.says(11, "STATE goes ahead of the exception");
        refused(kind, "global(-1)", x -> x.global(-1), ZHeads.STATE);
        refused(kind, "global(240)", x -> x.global(240), ZHeads.STATE);
        Checks.says(12, "STATE goes ahead of the exception");
        refused(kind, "load(-1)", x -> x.load(-1), ZHeads.STATE);
        refused(kind, "load(600)", x -> x.load(600), ZHeads.STATE);
        Checks.says(13, "STATE goes ahead of BARRED");
        refused(kind, "store(63, 9)", x -> x.store(63, 9), ZHeads.STATE);
        refused(kind, "store(600, 9)", x -> x.store(600, 9), ZHeads.STATE);
        refused(kind, "store(-1, 9)", x -> x.store(-1, 9), ZHeads.STATE);
        Checks.says(14, "STATE goes ahead of OUTSIDE");
        refused(kind, "packed(-1, true)", x -> x.packed(-1, true), ZHeads.STATE);
        refused(kind, "packed(65536, false)", x -> x.packed(65536, false), ZHeads.STATE);
        Checks.says(15, "STATE goes ahead of OUTSIDE and of the exception");
        refused(kind, "first(-1, true)", x -> x.first(-1, true), ZHeads.STATE);
        refused(kind, "first(65536, false)", x -> x.first(65536, false), ZHeads.STATE);
        refused(kind, "first(65535, false)", x -> x.first(65535, false), ZHeads.STATE);
        Checks.says(18, "STATE goes ahead of OUTSIDE and of BARRED");
        refused(kind, "flag(0, 0, ..)", x -> x.flag(0, 0, true, true), ZHeads.STATE);
        refused(kind, "flag(1, 8, ..)", x -> x.flag(1, 8, true, false), ZHeads.STATE);
        refused(kind, "flag(1, 0, true, true)", x -> x.flag(1, 0, true, true), ZHeads.STATE);
        refused(kind, "flag(2, 15, true, false)", x -> x.flag(2, 15, true, false), ZHeads.STATE);
        Checks.says(19, "STATE goes ahead of OUTSIDE");
        refused(kind, "isOn(3, 0)", x -> x.isOn(3, 0), ZHeads.STATE);
        refused(kind, "isOn(2, 16)", x -> x.isOn(2, 16), ZHeads.STATE);
        Checks.says(20, "STATE goes ahead of OUTSIDE and of BARRED");
        refused(kind, "set(11, 0)", x -> x.set(11, 0), ZHeads.STATE);
        refused(kind, "set(0, 256)", x -> x.set(0, 256), ZHeads.STATE);
        refused(kind, "set(0, 0)", x -> x.set(0, 0), ZHeads.STATE);
        Checks.says(22, "STATE goes ahead of the exception");
        refused(kind, "sign(-1)", x -> x.sign(-1), ZHeads.STATE);
        refused(kind, "sign(255)", x -> x.sign(255), ZHeads.STATE);
        Checks.says(23, "STATE goes ahead of the exception");
        refused(kind, "ratio(true)", x -> x.ratio(true), ZHeads.STATE);
    }

    private static void outsideOfFile(Kind kind) {
        Checks.says(2, "OUTSIDE alone");
        for (int b : new int[] {-1, 256, LOW, TOP}) {
            refused(kind, "octet(" + b + ")", x -> x.octet(b), ZHeads.OUTSIDE);
        }
        Checks.says(3, "OUTSIDE alone");
        for (int n : new int[] {-1, 0, 9, LOW, TOP}) {
            refused(kind, "feed(7, " + n + ")", x -> x.feed(7L, n), ZHeads.OUTSIDE);
        }
        Checks.says(4, "OUTSIDE alone, and for both numbers");
        for (int n : new int[] {-1, 0, 601, LOW, TOP}) {
            refused(kind, "fill(" + n + ", 7)", x -> x.fill(n, 7), ZHeads.OUTSIDE);
            refused(kind, "fill(" + n + ", 256)", x -> x.fill(n, 256), ZHeads.OUTSIDE);
        }
        for (int b : new int[] {-1, 256, LOW, TOP}) {
            refused(kind, "fill(1, " + b + ")", x -> x.fill(1, b), ZHeads.OUTSIDE);
        }
        Checks.says(5, "OUTSIDE alone, and for both numbers");
        for (int place : new int[] {-1, 600, LOW, TOP}) {
            refused(kind, "poke(" + place + ", 7)", x -> x.poke(place, 7), ZHeads.OUTSIDE);
            refused(kind, "poke(" + place + ", 256)", x -> x.poke(place, 256), ZHeads.OUTSIDE);
        }
        for (int b : new int[] {-1, 256, LOW, TOP}) {
            refused(kind, "poke(0, " + b + ")", x -> x.poke(0, b), ZHeads.OUTSIDE);
        }
        int size = kind.made.get().size();
        refused(kind, "poke(SIZE, 7)", x -> x.poke(size, 7), ZHeads.OUTSIDE);
    }

    private static void full(Kind kind) {
        int room = 600 - kind.made.get().size();
        if (room == 0) {
            Checks.says(2, "FULL alone");
            refused(kind, "octet(0)", x -> x.octet(0), ZHeads.FULL);
            refused(kind, "octet(255)", x -> x.octet(255), ZHeads.FULL);
        }
        if (room < 8) {
            Checks.says(3, "FULL alone (none comes)");
            refused(kind, "feed(7, " + (room + 1) + ")", x -> x.feed(7L, room + 1), ZHeads.FULL);
            refused(kind, "feed(7, 8)", x -> x.feed(7L, 8), ZHeads.FULL);
            Checks.says(3, "OUTSIDE goes ahead of FULL");
            refused(kind, "feed(7, 9)", x -> x.feed(7L, 9), ZHeads.OUTSIDE);
        }
        if (room < 600) {
            Checks.says(4, "FULL alone (none comes)");
            refused(kind, "fill(" + (room + 1) + ", 7)", x -> x.fill(room + 1, 7), ZHeads.FULL);
            refused(kind, "fill(600, 7)", x -> x.fill(600, 7), ZHeads.FULL);
            Checks.says(4, "OUTSIDE goes ahead of FULL");
            refused(kind, "fill(601, 7)", x -> x.fill(601, 7), ZHeads.OUTSIDE);
            refused(kind, "fill(" + (room + 1) + ", 256)", x -> x.fill(room + 1, 256), ZHeads.OUTSIDE);
            refused(kind, "fill(600, -1)", x -> x.fill(600, -1), ZHeads.OUTSIDE);
        }
    }

    private static void outsideOfRead(Kind kind) {
        Checks.says(9, "OUTSIDE alone");
        for (int what : new int[] {-1, 18, LOW, TOP}) {
            refused(kind, "field(" + what + ")", x -> x.field(what), ZHeads.OUTSIDE);
        }
        for (int a : new int[] {-1, 65536, LOW, TOP}) {
            Checks.says(14, "OUTSIDE alone");
            refused(kind, "packed(" + a + ", true)", x -> x.packed(a, true), ZHeads.OUTSIDE);
            Checks.says(15, "OUTSIDE goes ahead of the exception");
            refused(kind, "first(" + a + ", true)", x -> x.first(a, true), ZHeads.OUTSIDE);
        }
        Checks.says(18, "OUTSIDE goes ahead of BARRED");
        int[][] flags = {{0, 0}, {3, 0}, {1, -1}, {1, 8}, {2, -1}, {2, 16}, {LOW, LOW}, {TOP, TOP}};
        for (int[] f : flags) {
            refused(kind, "flag(" + f[0] + ", " + f[1] + ", true, true)", x -> x.flag(f[0], f[1], true, true), ZHeads.OUTSIDE);
            refused(kind, "flag(" + f[0] + ", " + f[1] + ", false, false)", x -> x.flag(f[0], f[1], false, false),
                ZHeads.OUTSIDE);
        }
        Checks.says(19, "OUTSIDE alone");
        for (int[] f : flags) {
            refused(kind, "isOn(" + f[0] + ", " + f[1] + ")", x -> x.isOn(f[0], f[1]), ZHeads.OUTSIDE);
        }
        Checks.says(20, "OUTSIDE alone, and ahead of BARRED");
        for (int what : new int[] {-1, 11, LOW, TOP}) {
            refused(kind, "set(" + what + ", 0)", x -> x.set(what, 0), ZHeads.OUTSIDE);
            refused(kind, "set(" + what + ", -1)", x -> x.set(what, -1), ZHeads.OUTSIDE);
        }
        for (int what = 0; what <= 10; what++) {
            int w = what;
            int beyond = what == 4 || what == 5 || what == 10 ? 65536 : 256;
            refused(kind, "set(" + w + ", -1)", x -> x.set(w, -1), ZHeads.OUTSIDE);
            refused(kind, "set(" + w + ", " + beyond + ")", x -> x.set(w, beyond), ZHeads.OUTSIDE);
        }
    }

    private static void barred(Kind kind, int version) {
        ZHeads any = kind.made.get();
        int size = any.size();
        int fixed = any.field(2);
        Checks.says(13, "BARRED alone");
        for (int place : new int[] {0, 63, fixed, 599, size, 600, -1, LOW, TOP}) {
            refused(kind, "store(" + place + ", 9)", x -> x.store(place, 9), ZHeads.BARRED);
        }
        Checks.says(18, "BARRED alone (also where it is so already)");
        for (int way = 0; way < 4; way++) {
            boolean on = way % 2 == 0;
            boolean story = way > 1;
            refused(kind, "flag(2, 15, ..)", x -> x.flag(2, 15, on, story), ZHeads.BARRED);
            refused(kind, "flag(2, 9, ..)", x -> x.flag(2, 9, on, story), ZHeads.BARRED);
            refused(kind, "flag(1, 4, .., true)", x -> x.flag(1, 4, on, true), ZHeads.BARRED);
            refused(kind, "flag(2, 1, .., false)", x -> x.flag(2, 1, on, false), ZHeads.BARRED);
            refused(kind, "flag(2, 3, true, ..)", x -> x.flag(2, 3, true, story), ZHeads.BARRED);
        }
        refused(kind, "flag(2, 2, true, true)", x -> x.flag(2, 2, true, true), ZHeads.BARRED);
        Checks.says(20, "BARRED alone");
        for (int what = 0; what < 10; what++) {
            int w = what;
            if (version < (what < 4 ? 4 : 5)) {
                refused(kind, "set(" + w + ", 0)", x -> x.set(w, 0), ZHeads.BARRED);
                refused(kind, "set(" + w + ", 255)", x -> x.set(w, 255), ZHeads.BARRED);
            }
        }
    }

    private static void exceptions(Kind kind) {
        int size = kind.made.get().size();
        Checks.says(10, "ArrayIndexOutOfBoundsException, and nothing changes");
        for (int i : new int[] {-1, 6, LOW, TOP}) {
            refused(kind, "serial(" + i + ")", x -> x.serial(i), Checks.INDEX);
        }
        Checks.says(11, "ArrayIndexOutOfBoundsException, and nothing changes");
        for (int k : new int[] {-1, 240, LOW, TOP}) {
            refused(kind, "global(" + k + ")", x -> x.global(k), Checks.INDEX);
        }
        Checks.says(12, "ArrayIndexOutOfBoundsException, and nothing changes");
        for (int place : new int[] {-1, size, 600, LOW, TOP}) {
            refused(kind, "load(" + place + ")", x -> x.load(place), Checks.INDEX);
        }
        Checks.says(15, "ArrayIndexOutOfBoundsException, and nothing changes");
        for (int a : new int[] {300, 65535}) {
            refused(kind, "first(" + a + ", true)", x -> x.first(a, true), Checks.INDEX);
            refused(kind, "first(" + a + ", false)", x -> x.first(a, false), Checks.INDEX);
        }
        Checks.says(22, "ArrayIndexOutOfBoundsException, and nothing changes");
        for (int i : new int[] {-1, 0, 255, LOW, TOP}) {
            refused(kind, "sign(" + i + ")", x -> x.sign(i), Checks.INDEX);
        }
        Checks.says(23, "ArithmeticException, and nothing changes");
        refused(kind, "ratio(true)", x -> x.ratio(true), Checks.ARITHMETIC);
    }

    /** What only asks changes nothing either, and what is refused by read() leaves THE FILE as it was. */
    private static void askingChangesNothing(Kind kind) {
        ZHeads twin = kind.made.get();
        Checks.says(8, "asking changes nothing");
        refused(kind, "rule()", ZHeads::rule, twin.rule());
        Checks.says(24, "asking changes nothing");
        refused(kind, "size()", ZHeads::size, twin.size());
        Checks.says(16, "asking changes nothing");
        refused(kind, "sum()", ZHeads::sum, twin.sum());
        Checks.says(17, "asking changes nothing");
        refused(kind, "agrees()", ZHeads::agrees, twin.agrees());
        Checks.says(9, "asking changes nothing");
        refused(kind, "field(15)", x -> x.field(15), twin.field(15));
        Checks.says(12, "asking changes nothing");
        refused(kind, "load(64)", x -> x.load(64), Checks.answer(() -> twin.load(64)));
        Checks.says(19, "asking changes nothing");
        refused(kind, "isOn(2, 0)", x -> x.isOn(2, 0), twin.isOn(2, 0));
    }

    private static void brokenReadKeepsFile() {
        Checks.says(7, "THE FILE is judged: it stays as it is");
        Kind kind = new Kind("broken", ZHeadsRefusals::broken);
        refused(kind, "read()", ZHeads::read, -32);
        Kind none = new Kind("empty and judged", () -> {
            ZHeads x = new ZHeads();
            x.read();
            return x;
        });
        refused(none, "read()", ZHeads::read, -20);
        Checks.says(6, "clear() of an empty FILE changes nothing");
        refused(new Kind("empty", ZHeads::new), "clear()", ZHeads::clear, 0);
        Checks.says(1, "An empty FILE: as one that was cleared");
        refused(new Kind("cleared", () -> {
            ZHeads x = changed(Stories.apart(6));
            x.clear();
            return x;
        }), "size()", ZHeads::size, 0);
    }

    public static void main(String[] args) {
        for (Kind kind : notRead()) {
            stateAlone(kind);
            stateFirst(kind);
            outsideOfFile(kind);
            full(kind);
            askingChangesNothing(kind);
        }
        for (int version = 1; version <= 8; version++) {
            for (Kind kind : new Kind[] {read(version), readShort(version)}) {
                outsideOfFile(kind);
                full(kind);
                outsideOfRead(kind);
                barred(kind, version);
                exceptions(kind);
                askingChangesNothing(kind);
            }
        }
        full(new Kind("600 bytes of 0", () -> Stories.made(new int[600])));
        full(new Kind("599 bytes of 0", () -> Stories.made(new int[599])));
        full(new Kind("593 bytes of 0", () -> Stories.made(new int[593])));
        full(new Kind("592 bytes of 0", () -> Stories.made(new int[592])));
        brokenReadKeepsFile();
        Checks.end(1, 24);
    }
}
