import java.util.ArrayList;
import java.util.Arrays;
import java.util.List;
import java.util.Random;

/**
 * Random runs of calls, the same ones each time, against a second telling of the
 * document that is free to use the Java library and to be slow.
 */
public final class ZHeadsModel {
    private static final int RUNS = 6000;
    private static final int CALLS = 300;
    private static final String AIOOBE = "ArrayIndexOutOfBoundsException";

    /** Thrown where a byte that is asked for is not there. */
    private static final class Lacking extends RuntimeException {
        private static final long serialVersionUID = 1L;
    }

    /** The document, told plainly; answers are texts, so that an exception is one too. */
    private static final class Model {
        private final List<Integer> file = new ArrayList<>();
        private List<Integer> kept = null;
        private List<Integer> memory = null;
        private int latestRule = 0;

        private static int at(List<Integer> row, int place) {
            if (place < 0 || place >= row.size()) {
                throw new Lacking();
            }
            return row.get(place);
        }

        private static int two(List<Integer> row, int place) {
            return at(row, place) * 256 + at(row, place + 1);
        }

        private int version() {
            return at(file, 0);
        }

        private int length() {
            int told = two(file, 26);
            if (told == 0 && version() < 4) {
                return file.size();
            }
            return told * new int[] {0, 2, 2, 2, 4, 4, 8, 8, 8}[version()];
        }

        private int start() {
            return version() == 6 ? two(file, 6) * 4 + two(file, 40) * 8 : two(file, 6);
        }

        private static void must(boolean holds) {
            if (!holds) {
                throw new Lacking();
            }
        }

        private void area(int from, int bytes, int end) {
            must(from >= 64);
            must(from + bytes <= end);
        }

        private void judge(int rule) {
            boolean early = rule > 1 && version() < 4;
            switch (rule) {
                case 1 -> must(!file.isEmpty());
                case 2 -> must(version() > 0 && version() < 9);
                case 3 -> must(file.size() > 63);
                case 4 -> must(length() > 63 && length() <= file.size());
                case 5 -> must(two(file, 14) > 63 && two(file, 14) <= length());
                case 6 -> must(two(file, 4) >= two(file, 14) && two(file, 4) <= length());
                case 7 -> area(two(file, 12), 480, two(file, 14));
                case 8 -> area(two(file, 10), early ? 62 : 126, two(file, 14));
                case 9 -> {
                    int place = two(file, 8);
                    must(place > 63);
                    place += at(file, place) + 1;
                    int one = at(file, place);
                    must(one >= (early ? 4 : 6));
                    int many = two(file, place + 1);
                    must(place + 3 + one * (many > 32767 ? 65536 - many : many) <= length());
                }
                case 10 -> {
                    if (version() > 1 && two(file, 24) != 0) {
                        area(two(file, 24), version() == 2 ? 64 : 192, length());
                    }
                }
                case 11 -> must(start() > 63 && start() < length());
                default -> judgeLate(rule);
            }
        }

        private void judgeLate(int rule) {
            if (version() < 5) {
                return;
            }
            int more = two(file, 54);
            switch (rule) {
                case 12 -> {
                    if (two(file, 52) != 0) {
                        area(two(file, 52), 78, length());
                    }
                }
                case 13 -> {
                    int ends = two(file, 46);
                    must(ends == 0 || ends > 63 && ends < length() && file.subList(ends, length()).contains(0));
                }
                case 14 -> {
                    if (more != 0) {
                        area(more, two(file, more) * 2 + 2, length());
                    }
                }
                default -> {
                    if (more != 0 && two(file, more) > 2 && two(file, more + 6) != 0) {
                        int third = two(file, more + 6);
                        area(third, at(file, third) * 2 + 1, length());
                    }
                }
            }
        }

        private int come(int[] bytes) {
            if (file.size() + bytes.length > 600) {
                return -14;
            }
            for (int b : bytes) {
                file.add(b);
            }
            kept = null;
            return file.size();
        }

        private static boolean isByte(int b) {
            return (b & ~255) == 0;
        }

        private int read() {
            int[] places = {0, 0, 0, file.size(), 26, 14, 4, 12, 10, 8, 24, 6, 52, 46, 54, 0};
            for (int rule = 1; rule <= 15; rule++) {
                try {
                    judge(rule);
                } catch (Lacking e) {
                    latestRule = rule;
                    return -20 - (rule == 15 ? two(file, 54) + 6 : places[rule]);
                }
            }
            latestRule = 0;
            kept = new ArrayList<>(file);
            memory = new ArrayList<>(file);
            return version();
        }

        private int field(int what) {
            int[] at = {0, 0, 14, 4, 12, 10, 8, 24, 0, 52, 46, 0, 0, 2, 28};
            int words = two(kept, 8);
            int behind = words + 1 + at(kept, words);
            int more = version() < 5 ? 0 : two(kept, 54);
            int many = more == 0 ? 0 : two(kept, more);
            return switch (what) {
                case 0 -> version();
                case 1 -> length();
                case 7 -> version() == 1 ? 0 : two(kept, 24);
                case 8 -> start();
                case 9, 10 -> version() < 5 ? 0 : two(kept, at[what]);
                case 11 -> many;
                case 12 -> many < 3 ? 0 : two(kept, more + 6);
                case 15 -> (short) two(kept, behind + 1);
                case 16 -> at(kept, behind);
                case 17 -> at(kept, words);
                default -> what < 0 || what > 17 ? -12 : two(kept, at[what]);
            };
        }

        private int packed(int a, boolean text) {
            return switch (version()) {
                case 1, 2, 3 -> a * 2;
                case 4, 5 -> a * 4;
                case 8 -> a * 8;
                default -> a * 4 + 8 * two(kept, text ? 42 : 40);
            };
        }

        private int sum() {
            return kept.subList(64, length()).stream().mapToInt(Integer::intValue).sum() % 65536;
        }

        private static boolean in(int n, int... row) {
            return Arrays.stream(row).anyMatch(m -> m == n);
        }

        private boolean may(int word, int bit, boolean on, boolean story) {
            int v = version();
            if (word == 1) {
                return !story && (v < 4 ? in(bit, 4, 5, 6) : v == 4 ? in(bit, 2, 3, 4, 7)
                    : v == 6 ? in(bit, 0, 1, 2, 3, 4, 5, 7) : in(bit, 0, 2, 3, 4, 7));
            }
            return bit == 0 || story && bit == 1 && v >= 3 || !story && bit == 2 && v == 6
                || story && !on && bit == 2 && v == 6 || !story && !on && in(bit, 3, 4, 5, 6, 7) && v >= 5
                || !story && !on && bit == 8 && v == 6;
        }

        private static int cell(int word, int bit) {
            return word == 1 ? 1 : bit > 7 ? 16 : 17;
        }

        private int flag(int word, int bit, boolean on, boolean story) {
            if (!in(word, 1, 2) || bit < 0 || bit > 8 * word - 1) {
                return -12;
            }
            if (!may(word, bit, on, story)) {
                return -13;
            }
            int place = cell(word, bit);
            int mask = 1 << bit % 8;
            int was = at(memory, place);
            memory.set(place, on ? was | mask : was & (255 - mask));
            return (was & mask) == 0 ? 0 : 1;
        }

        private int isOn(int word, int bit) {
            if (!in(word, 1, 2) || bit < 0 || bit > 8 * word - 1) {
                return -12;
            }
            return at(memory, cell(word, bit)) >> bit % 8 & 1;
        }

        private int set(int what, int v) {
            boolean wide = in(what, 4, 5, 10);
            if (what < 0 || what > 10 || v < 0 || v > (wide ? 65535 : 255)) {
                return -12;
            }
            if (what < 4 && version() < 4 || what > 3 && what < 10 && version() < 5) {
                return -13;
            }
            int[] five = {30, 31, 32, 33, 34, 36, 38, 39, 44, 45, 50};
            int[] others = {30, 31, 32, 33, 34, 36, 39, 38, 44, 45, 50};
            int place = version() == 5 ? five[what] : others[what];
            int was = wide ? two(memory, place) : at(memory, place);
            memory.set(place, wide ? v / 256 : v);
            if (wide) {
                memory.set(place + 1, v % 256);
            }
            return was;
        }

        private int restart() {
            int differed = 0;
            for (int p = 64; p < two(kept, 14); p++) {
                if (!memory.set(p, kept.get(p)).equals(kept.get(p))) {
                    differed++;
                }
            }
            return differed;
        }

        private String needsRead(int call, int a, int b, boolean p, boolean q) {
            int words = two(kept, 8);
            return switch (call) {
                case 9 -> "" + field(a);
                case 10 -> a < 0 || a > 5 ? AIOOBE : "" + at(memory, 18 + a);
                case 11 -> a < 0 || a > 239 ? AIOOBE : "" + (short) two(memory, two(kept, 12) + 2 * a);
                case 12 -> a < 0 || a >= memory.size() ? AIOOBE : "" + at(memory, a);
                case 13 -> a < 64 || a >= two(kept, 14) ? "-13" : "" + memory.set(a, b & 255);
                case 14 -> a < 0 || a > 65535 ? "-12" : "" + packed(a, p);
                case 15 -> a < 0 || a > 65535 ? "-12"
                    : packed(a, p) >= memory.size() ? AIOOBE : "" + at(memory, packed(a, p));
                case 16 -> "" + sum();
                case 17 -> sum() == two(kept, 28) ? "1" : "0";
                case 18 -> "" + flag(a, b, p, q);
                case 19 -> "" + isOn(a, b);
                case 20 -> "" + set(a, b);
                case 21 -> "" + restart();
                case 22 -> a < 0 || a >= at(kept, words) ? AIOOBE : "" + at(kept, words + 1 + a);
                default -> p && field(15) == 0 ? "ArithmeticException" : "" + length() / field(p ? 15 : 16);
            };
        }

        String answer(int call, int a, int b, long w, boolean p, boolean q) {
            switch (call) {
                case 2:
                    return "" + (isByte(a) ? come(new int[] {a}) : -12);
                case 3: {
                    if (a < 1 || a > 8) {
                        return "-12";
                    }
                    int[] bytes = new int[a];
                    for (int i = 0; i < a; i++) {
                        bytes[a - 1 - i] = (int) (w >>> 8 * i & 255);
                    }
                    return "" + come(bytes);
                }
                case 4: {
                    if (a < 1 || a > 600 || !isByte(b)) {
                        return "-12";
                    }
                    int[] bytes = new int[a];
                    Arrays.fill(bytes, b);
                    return "" + come(bytes);
                }
                case 5:
                    if (a < 0 || a >= file.size() || !isByte(b)) {
                        return "-12";
                    }
                    kept = null;
                    return "" + file.set(a, b);
                case 6: {
                    int had = file.size();
                    file.clear();
                    kept = null;
                    latestRule = 0;
                    return "" + had;
                }
                case 7:
                    return "" + read();
                case 8:
                    return "" + latestRule;
                case 24:
                    return "" + file.size();
                default:
                    return kept == null ? "-11" : needsRead(call, a, b, p, q);
            }
        }
    }

    private static int asked(ZHeads x, int call, int a, int b, long w, boolean p, boolean q) {
        return switch (call) {
            case 2 -> x.octet(a);
            case 3 -> x.feed(w, a);
            case 4 -> x.fill(a, b);
            case 5 -> x.poke(a, b);
            case 6 -> x.clear();
            case 7 -> x.read();
            case 8 -> x.rule();
            case 9 -> x.field(a);
            case 10 -> x.serial(a);
            case 11 -> x.global(a);
            case 12 -> x.load(a);
            case 13 -> x.store(a, b);
            case 14 -> x.packed(a, p);
            case 15 -> x.first(a, p);
            case 16 -> x.sum();
            case 17 -> x.agrees();
            case 18 -> x.flag(a, b, p, q);
            case 19 -> x.isOn(a, b);
            case 20 -> x.set(a, b);
            case 21 -> x.restart();
            case 22 -> x.sign(a);
            case 23 -> x.ratio(p);
            default -> x.size();
        };
    }

    private static String thrown(RuntimeException e) {
        return Checks.isOfTheMachine(e) ? "the machine's " + e : e.getClass().getSimpleName();
    }

    private static final int[] ARGS = {-1, 0, 1, 2, 5, 6, 7, 8, 9, 10, 11, 15, 16, 17, 18, 63, 64, 239, 240, 255, 256,
        544, 547, 548, 599, 600, 601, 65535, 65536, Integer.MAX_VALUE, Integer.MIN_VALUE};
    /** The most that a first and a second number of a call is, to be in range most often. */
    private static final int[] MOST_A = {0, 0, 255, 8, 600, 599, 0, 0, 0, 17, 5, 239, 599, 599, 300, 160, 0, 0, 2, 2,
        10, 0, 4, 0, 0};
    private static final int[] MOST_B = {0, 0, 0, 0, 255, 255, 0, 0, 0, 0, 0, 0, 0, 999, 0, 0, 0, 0, 9, 15, 255, 0, 0,
        0, 0};

    private static int number(Random r, int most) {
        return r.nextInt(8) == 0 ? ARGS[r.nextInt(ARGS.length)] : r.nextInt(most + 1);
    }

    private static void two(int[] row, int place, int v) {
        Stories.two(row, place, v);
    }

    private static int[] story(Random r) {
        int version = r.nextInt(8) + 1;
        int scale = version <= 3 ? 2 : version <= 5 ? 4 : 8;
        int size = 568 + r.nextInt(33);
        int[] row = new int[size];
        for (int i = 0; i < size; i++) {
            row[i] = r.nextInt(i < 64 || r.nextInt(4) > 0 ? 256 : 2);
        }
        row[0] = version;
        two(row, 26, version <= 3 && r.nextBoolean() ? 0 : size / scale);
        int fixed = 544 + r.nextInt(9);
        int words = r.nextBoolean() ? 64 + r.nextInt(400) : 552;
        two(row, 14, fixed);
        two(row, 4, fixed + r.nextInt(10));
        two(row, 12, 64 + r.nextInt(fixed - 543));
        two(row, 10, 64 + r.nextInt(fixed - 189));
        two(row, 8, words);
        two(row, 24, r.nextBoolean() ? 0 : 64 + r.nextInt(300));
        two(row, 6, version == 6 ? 16 + r.nextInt(80) : 64 + r.nextInt(490));
        two(row, 40, r.nextInt(21));
        two(row, 42, r.nextInt(21));
        two(row, 52, r.nextBoolean() ? 0 : 64 + r.nextInt(430));
        two(row, 46, r.nextBoolean() ? 0 : 64 + r.nextInt(495));
        int more = 64 + r.nextInt(480);
        two(row, 54, r.nextInt(3) == 0 ? 0 : more);
        two(row, more, r.nextInt(6));
        two(row, more + 6, r.nextInt(3) == 0 ? 0 : 64 + r.nextInt(500));
        row[words] = r.nextInt(4);
        row[words + 1 + row[words]] = 4 + r.nextInt(5);
        two(row, words + 2 + row[words], r.nextInt(6) - 2);
        if (r.nextInt(3) == 0) {
            two(row, r.nextInt(32) * 2, r.nextInt(3) == 0 ? r.nextInt(65536) : r.nextInt(620));
        }
        return row;
    }

    public static void main(String[] args) {
        int wrong = 0;
        int sound = 0;
        int[] told = new int[16];
        for (int run = 0; run < RUNS && wrong < 20; run++) {
            Random r = new Random(run);
            ZHeads x = new ZHeads();
            Model model = new Model();
            int[] row = run % 20 == 0 ? new int[0] : story(r);
            Stories.put(x, row);
            model.come(row);
            for (int k = 0; k < CALLS && wrong < 20; k++) {
                int call = k == 0 ? 7 : r.nextInt(60) == 0 ? 2 + r.nextInt(6) : 7 + r.nextInt(18);
                call = call == 6 && r.nextInt(4) > 0 ? 5 : call;
                int a = number(r, MOST_A[call]);
                int b = number(r, MOST_B[call]);
                long w = r.nextLong();
                boolean p = r.nextBoolean();
                boolean q = r.nextBoolean();
                String want = model.answer(call, a, b, w, p, q);
                String got;
                try {
                    got = "" + asked(x, call, a, b, w, p, q);
                } catch (RuntimeException e) {
                    got = thrown(e);
                }
                if (!got.equals(want)) {
                    wrong++;
                    System.out.println("run " + run + ", call " + k + ": promise " + call + " with " + a + ", " + b
                        + ", " + w + ", " + p + ", " + q + " answered " + got + ", due is " + want);
                }
            }
            told[model.latestRule]++;
            sound += model.kept != null ? 1 : 0;
        }
        for (int rule = 1; rule <= 15; rule++) {
            if (wrong == 0 && told[rule] == 0) {
                wrong++;
                System.out.println("no run ended with rule " + rule + " broken: the runs are too tame");
            }
        }
        System.out.println(RUNS + " runs, " + sound + " of them sound at their end; rules told: "
            + Arrays.toString(told) + "; " + wrong + " wrong");
        if (wrong != 0) {
            System.exit(1);
        }
    }
}
