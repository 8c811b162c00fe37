import java.util.Arrays;

/** Promises 7 and 8: each rule at its bound and just beyond it, on both sides, and the order of the rules. */
public final class ZHeadsRules {
    private static final int[] ALL = {1, 2, 3, 4, 5, 6, 7, 8};
    private static final int[] LATE = {5, 6, 7, 8};

    private static void broken(int[] row, String what, int rule, int place) {
        ZHeads x = Stories.made(row);
        Checks.due("read() of " + what, x.read(), -20 - place);
        Checks.due("rule() of " + what, x.rule(), rule);
        Checks.due("field(0) of " + what, x.field(0), ZHeads.STATE);
    }

    private static void sound(int[] row, String what) {
        ZHeads x = Stories.made(row);
        Checks.due("read() of " + what, x.read(), row[0]);
        Checks.due("rule() of " + what, x.rule(), 0);
        Checks.due("field(0) of " + what, x.field(0), row[0]);
    }

    /** The rule holds, so that the next one that is broken is told. */
    private static void past(int[] row, String what, int nextBroken, int place) {
        broken(row, what + " (the rule holds)", nextBroken, place);
    }

    private static int[] with(int[] row, int place, int v) {
        int[] changed = row.clone();
        Stories.two(changed, place, v);
        return changed;
    }

    private static int[] cut(int[] row, int size) {
        return Arrays.copyOf(row, size);
    }

    private static String v(int version, String what) {
        return "version " + version + ", " + what;
    }

    private static void soundStories() {
        Checks.says(7, "THE FILE is judged: its VERSION");
        for (int n : ALL) {
            sound(Stories.least(n), v(n, "the shortest story"));
            sound(Stories.full(n), v(n, "the longest story"));
            sound(Stories.apart(n), v(n, "regions apart"));
            broken(cut(Stories.least(n), 543), v(n, "one byte too short"), 4, 26);
        }
    }

    private static void someByte() {
        Checks.says(7, "1 there is some byte (0)");
        broken(new int[0], "no byte", 1, 0);
        past(new int[] {0}, "one byte", 2, 0);
        ZHeads x = Stories.read(Stories.least(3));
        x.clear();
        Checks.due("read() after clear()", x.read(), -20);
        Checks.due("rule() after clear() and read()", x.rule(), 1);
    }

    private static void versions() {
        Checks.says(7, "2 VERSION is 1 .. 8 (0)");
        for (int b = 0; b <= 255; b++) {
            boolean known = b >= 1 && b <= 8;
            broken(new int[] {b}, "one byte " + b, known ? 3 : 2, known ? 1 : 0);
        }
        for (int b : new int[] {0, 9, 128, 255}) {
            int[] row = Stories.least(8);
            row[0] = b;
            broken(row, "a story of version " + b, 2, 0);
        }
    }

    private static void sizes() {
        Checks.says(7, "3 SIZE is 64 at least (SIZE)");
        for (int n : ALL) {
            for (int size : new int[] {1, 2, 26, 27, 28, 62, 63}) {
                broken(cut(Stories.least(n), size), v(n, size + " bytes"), 3, size);
            }
            past(cut(Stories.least(n), 64), v(n, "64 bytes"), 4, 26);
        }
    }

    private static void lengths() {
        Checks.says(7, "4 THE LENGTH is 64 .. SIZE (26)");
        for (int n : ALL) {
            int scale = Stories.scale(n);
            int[] row = Stories.least(n);
            broken(with(row, 26, 64 / scale - 1), v(n, "LENGTH " + (64 - scale)), 4, 26);
            past(with(row, 26, 64 / scale), v(n, "LENGTH 64"), 5, 14);
            past(with(cut(row, 64), 26, 64 / scale), v(n, "LENGTH 64 is SIZE"), 5, 14);
            int[] full = Stories.full(n);
            broken(with(full, 26, 600 / scale + 1), v(n, "LENGTH above SIZE"), 4, 26);
            broken(with(full, 26, 65535), v(n, "the highest LENGTH"), 4, 26);
            broken(cut(full, 599), v(n, "SIZE below LENGTH"), 4, 26);
        }
        Checks.says(7, "SCALE is 2 (VERSIONS 1 .. 3), 4 (4, 5), 8 (6 .. 8)");
        for (int n : ALL) {
            int[] row = Stories.apart(n);
            int told = Stories.two(row, 26);
            Checks.due(v(n, "field(1)"), Stories.read(row).field(1), told * (n < 4 ? 2 : n < 6 ? 4 : 8));
        }
    }

    private static void lengthUntold() {
        Checks.says(7, "SIZE, if TWO at 26 is 0 and the VERSION 1 .. 3");
        for (int n : ALL) {
            int[] row = with(cut(Stories.least(n), 545), 26, 0);
            if (n <= 3) {
                sound(row, v(n, "TWO at 26 is 0"));
                Checks.due(v(n, "field(1) of 545 bytes"), Stories.read(row).field(1), 545);
                sound(with(row, 26, 272), v(n, "TWO at 26 is not 0"));
                Checks.due(v(n, "field(1) told"), Stories.read(with(row, 26, 272)).field(1), 544);
                broken(with(row, 26, 1), v(n, "TWO at 26 is 1"), 4, 26);
                past(with(cut(row, 64), 26, 0), v(n, "64 bytes, TWO at 26 is 0"), 5, 14);
            } else {
                broken(row, v(n, "TWO at 26 is 0"), 4, 26);
            }
        }
    }

    private static void statics() {
        Checks.says(7, "5 STATIC, TWO at 14, is 64 .. THE LENGTH (14)");
        for (int n : ALL) {
            int[] row = with(Stories.apart(n), 4, 584);
            broken(with(row, 14, 0), v(n, "STATIC 0"), 5, 14);
            broken(with(row, 14, 63), v(n, "STATIC 63"), 5, 14);
            past(with(row, 14, 64), v(n, "STATIC 64"), 7, 12);
            sound(with(row, 14, 584), v(n, "STATIC 584"));
            broken(with(row, 14, 585), v(n, "STATIC 585"), 5, 14);
            broken(with(row, 14, 65535), v(n, "STATIC 65535"), 5, 14);
        }
    }

    private static void highs() {
        Checks.says(7, "6 HIGH, TWO at 4, is STATIC .. THE LENGTH (4)");
        for (int n : ALL) {
            int[] row = Stories.apart(n);
            broken(with(row, 4, 0), v(n, "HIGH 0"), 6, 4);
            broken(with(row, 4, 551), v(n, "HIGH 551"), 6, 4);
            sound(with(row, 4, 552), v(n, "HIGH 552"));
            sound(with(row, 4, 584), v(n, "HIGH 584"));
            broken(with(row, 4, 585), v(n, "HIGH 585"), 6, 4);
            broken(with(row, 4, 65535), v(n, "HIGH 65535"), 6, 4);
        }
    }

    private static void globals() {
        Checks.says(7, "7 GLOBALS, TWO at 12, is 64 at least, and 480 bytes on not above STATIC (12)");
        for (int n : ALL) {
            int[] row = Stories.apart(n);
            broken(with(row, 12, 0), v(n, "GLOBALS 0"), 7, 12);
            broken(with(row, 12, 63), v(n, "GLOBALS 63"), 7, 12);
            sound(with(row, 12, 64), v(n, "GLOBALS 64"));
            sound(with(row, 12, 72), v(n, "GLOBALS 72"));
            broken(with(row, 12, 73), v(n, "GLOBALS 73"), 7, 12);
            broken(with(row, 12, 65535), v(n, "GLOBALS 65535"), 7, 12);
            sound(with(row, 14, 544), v(n, "STATIC 544"));
            broken(with(row, 14, 543), v(n, "STATIC 543"), 7, 12);
        }
    }

    private static void objects() {
        Checks.says(7, "8 OBJECTS, TWO at 10, likewise with 62 bytes (VERSIONS 1 .. 3) or 126 (10)");
        for (int n : ALL) {
            int[] row = Stories.apart(n);
            int last = n <= 3 ? 490 : 426;
            broken(with(row, 10, 0), v(n, "OBJECTS 0"), 8, 10);
            broken(with(row, 10, 63), v(n, "OBJECTS 63"), 8, 10);
            sound(with(row, 10, 64), v(n, "OBJECTS 64"));
            sound(with(row, 10, last), v(n, "OBJECTS " + last));
            broken(with(row, 10, last + 1), v(n, "OBJECTS " + (last + 1)), 8, 10);
            broken(with(row, 10, 65535), v(n, "OBJECTS 65535"), 8, 10);
        }
    }

    private static int[] words(int version, int place, int signs, int entry, int many) {
        int[] row = with(Stories.apart(version), 8, place);
        row[place] = signs;
        row[place + 1 + signs] = entry;
        Stories.two(row, place + 2 + signs, many);
        return row;
    }

    private static void wordPlaces() {
        Checks.says(7, "9 WORDS, TWO at 8, is 64 at least");
        for (int n : ALL) {
            int[] row = Stories.apart(n);
            row[63] = 0;
            row[64] = Stories.leastEntry(n);
            row[65] = 0;
            broken(with(row, 8, 63), v(n, "WORDS 63"), 9, 8);
            broken(with(row, 8, 0), v(n, "WORDS 0"), 9, 8);
            sound(Stories.apart(n), v(n, "WORDS 64"));
            broken(with(row, 8, 65535), v(n, "WORDS 65535"), 9, 8);
        }
    }

    private static void wordEntries() {
        Checks.says(7, "a byte that says how long an entry is (4 at least in VERSIONS 1 .. 3, 6 in others)");
        for (int n : ALL) {
            int least = n <= 3 ? 4 : 6;
            broken(words(n, 64, 0, 0, 0), v(n, "entries of 0"), 9, 8);
            broken(words(n, 64, 0, least - 1, 0), v(n, "entries of " + (least - 1)), 9, 8);
            sound(words(n, 64, 0, least, 0), v(n, "entries of " + least));
            sound(words(n, 64, 0, 255, 2), v(n, "two entries of 255"));
            broken(words(n, 64, 0, 255, 3), v(n, "three entries of 255"), 9, 8);
        }
        Checks.says(7, "there stands a byte n, n signs");
        for (int n : ALL) {
            sound(words(n, 64, 0, 6, 0), v(n, "no signs"));
            sound(words(n, 64, 255, 6, 0), v(n, "255 signs"));
            sound(words(n, 325, 255, 6, 0), v(n, "255 signs, ending at 584"));
            broken(words(n, 326, 255, 6, 0), v(n, "255 signs, ending at 585"), 9, 8);
        }
    }

    /** From 64 on, 516 bytes are left for entries ahead of 584: 86 of six, 129 of four, or one less with a sign. */
    private static void wordCounts() {
        Checks.says(7, "TWO, how many, and the entries, not beyond THE LENGTH (8)");
        for (int n : ALL) {
            sound(words(n, 64, 0, 6, 86), v(n, "86 entries end at 584"));
            broken(words(n, 64, 1, 6, 86), v(n, "86 entries end at 585"), 9, 8);
            sound(words(n, 65, 5, 6, 85), v(n, "85 entries end at 584"));
            broken(words(n, 66, 5, 6, 85), v(n, "85 entries end at 585"), 9, 8);
            broken(words(n, 64, 0, 6, 87), v(n, "87 entries"), 9, 8);
            broken(words(n, 64, 0, 6, 32767), v(n, "32767 entries"), 9, 8);
            sound(words(n, 580, 0, 6, 0), v(n, "no entry, ending at 584"));
            broken(words(n, 581, 0, 6, 0), v(n, "no entry, ending at 585"), 9, 8);
        }
        for (int n = 1; n <= 3; n++) {
            sound(words(n, 64, 0, 4, 129), v(n, "129 entries of four"));
            broken(words(n, 64, 0, 4, 130), v(n, "130 entries of four"), 9, 8);
        }
        Checks.says(7, "as a short; below 0: as many as it is without the sign, unsorted");
        for (int n : ALL) {
            sound(words(n, 64, 0, 6, -1), v(n, "-1 entries"));
            sound(words(n, 64, 0, 6, -86), v(n, "-86 entries end at 584"));
            broken(words(n, 64, 1, 6, -86), v(n, "-86 entries end at 585"), 9, 8);
            broken(words(n, 64, 0, 6, -87), v(n, "-87 entries"), 9, 8);
            broken(words(n, 64, 0, 6, -32767), v(n, "-32767 entries"), 9, 8);
            broken(words(n, 64, 0, 6, -32768), v(n, "-32768 entries"), 9, 8);
        }
    }

    private static void shorts() {
        Checks.says(7, "10 SHORTS, TWO at 24, from VERSION 2 on: 0, or 64 at least with 64 bytes (VERSION 2) or 192");
        for (int v : new int[] {0, 1, 63, 64, 520, 521, 584, 65535}) {
            sound(with(Stories.apart(1), 24, v), v(1, "TWO at 24 is " + v));
        }
        for (int n = 2; n <= 8; n++) {
            int[] row = Stories.apart(n);
            int last = n == 2 ? 520 : 392;
            sound(with(row, 24, 0), v(n, "SHORTS 0"));
            broken(with(row, 24, 1), v(n, "SHORTS 1"), 10, 24);
            broken(with(row, 24, 63), v(n, "SHORTS 63"), 10, 24);
            sound(with(row, 24, 64), v(n, "SHORTS 64"));
            sound(with(row, 24, last), v(n, "SHORTS " + last));
            broken(with(row, 24, last + 1), v(n, "SHORTS " + (last + 1)), 10, 24);
            broken(with(row, 24, 65535), v(n, "SHORTS 65535"), 10, 24);
        }
    }

    private static void starts() {
        Checks.says(7, "11 START, TWO at 6, is 64 .. THE LENGTH less 1 (6)");
        for (int n : new int[] {1, 2, 3, 4, 5, 7, 8}) {
            int[] row = Stories.apart(n);
            broken(with(row, 6, 0), v(n, "START 0"), 11, 6);
            broken(with(row, 6, 63), v(n, "START 63"), 11, 6);
            sound(with(row, 6, 64), v(n, "START 64"));
            sound(with(row, 6, 583), v(n, "START 583"));
            broken(with(row, 6, 584), v(n, "START 584"), 11, 6);
            broken(with(row, 6, 65535), v(n, "START 65535"), 11, 6);
            sound(with(row, 40, 65535), v(n, "TWO at 40 is no part of it"));
        }
        Checks.says(7, "VERSION 6: 4 times that, and 8 times TWO at 40");
        int[][] bounds = {{15, 0, 0}, {16, 0, 1}, {145, 0, 1}, {146, 0, 0}, {0, 7, 0}, {0, 8, 1}, {1, 7, 0},
            {2, 7, 1}, {0, 72, 1}, {1, 72, 1}, {2, 72, 0}, {0, 73, 0}, {65535, 0, 0}, {0, 65535, 0},
            {65535, 65535, 0}, {16384, 0, 0}, {0, 8192, 0}, {0, 8200, 0}};
        for (int[] b : bounds) {
            int[] row = with(with(Stories.apart(6), 6, b[0]), 40, b[1]);
            String what = v(6, b[0] + " at 6, " + b[1] + " at 40");
            if (b[2] == 1) {
                sound(row, what);
                Checks.due("field(8) of " + what, Stories.read(row).field(8), 4 * b[0] + 8 * b[1]);
            } else {
                broken(row, what, 11, 6);
            }
        }
    }

    private static void aheadOfFive() {
        Checks.says(7, "From VERSION 5 on: 12, 13, 14, 15");
        for (int at : new int[] {46, 52, 54}) {
            for (int v : new int[] {1, 63, 599, 65535}) {
                sound(with(Stories.apart(4), at, v), v(4, v + " at " + at));
                int rule = at == 52 ? 12 : at == 46 ? 13 : 14;
                broken(with(Stories.apart(5), at, v), v(5, v + " at " + at), rule, at);
            }
        }
        sound(with(more(4, 576, 3), 582, 63), v(4, "a third word 63"));
        broken(with(more(5, 576, 3), 582, 63), v(5, "a third word 63"), 15, 582);
    }

    private static void letters() {
        Checks.says(7, "12 LETTERS, TWO at 52: 0, or 64 at least with 78 bytes not beyond THE LENGTH (52)");
        for (int n : LATE) {
            int[] row = Stories.apart(n);
            sound(with(row, 52, 0), v(n, "LETTERS 0"));
            broken(with(row, 52, 1), v(n, "LETTERS 1"), 12, 52);
            broken(with(row, 52, 63), v(n, "LETTERS 63"), 12, 52);
            sound(with(row, 52, 64), v(n, "LETTERS 64"));
            sound(with(row, 52, 506), v(n, "LETTERS 506"));
            broken(with(row, 52, 507), v(n, "LETTERS 507"), 12, 52);
            broken(with(row, 52, 65535), v(n, "LETTERS 65535"), 12, 52);
        }
    }

    private static void ends() {
        Checks.says(7, "13 ENDS, TWO at 46: 0, or 64 at least; from there on a byte 0 comes ahead of THE LENGTH (46)");
        for (int n : LATE) {
            int[] row = Stories.apart(n);
            sound(with(row, 46, 0), v(n, "ENDS 0"));
            broken(with(row, 46, 1), v(n, "ENDS 1"), 13, 46);
            broken(with(row, 46, 63), v(n, "ENDS 63"), 13, 46);
            sound(with(row, 46, 64), v(n, "ENDS 64, where a 0 stands"));
            sound(with(row, 46, 67), v(n, "ENDS 67, where the last 0 stands"));
            broken(with(row, 46, 68), v(n, "ENDS 68, no 0 from there on"), 13, 46);
            row[583] = 0;
            sound(with(row, 46, 68), v(n, "ENDS 68, a 0 at 583"));
            sound(with(row, 46, 583), v(n, "ENDS 583, a 0 at 583"));
            broken(with(row, 46, 584), v(n, "ENDS 584, a 0 at 583"), 13, 46);
            row[583] = 7;
            row[584] = 0;
            broken(with(row, 46, 68), v(n, "ENDS 68, a 0 at 584"), 13, 46);
            broken(with(row, 46, 584), v(n, "ENDS 584, a 0 at 584"), 13, 46);
            broken(with(row, 46, 65535), v(n, "ENDS 65535"), 13, 46);
        }
    }

    /** MORE with so many words, of which the third, if it is there, is 0. */
    private static int[] more(int version, int place, int many) {
        int[] row = with(with(Stories.apart(version), 54, place), place, many);
        return many < 3 || place + 7 >= row.length ? row : with(row, place + 6, 0);
    }

    private static void moreWords() {
        Checks.says(7, "14 MORE, TWO at 54: 0, or 64 at least; TWO there is how many words follow, which are not beyond");
        for (int n : LATE) {
            sound(with(Stories.apart(n), 54, 0), v(n, "MORE 0"));
            broken(with(Stories.apart(n), 54, 1), v(n, "MORE 1"), 14, 54);
            int[] head = Stories.apart(n);
            head[63] = 0;
            broken(with(head, 54, 63), v(n, "MORE 63, no words"), 14, 54);
            int[] low = with(Stories.apart(n), 54, 64);
            low[70] = 0;
            low[71] = 0;
            sound(low, v(n, "MORE 64"));
            sound(more(n, 582, 0), v(n, "no words, ending at 584"));
            broken(more(n, 583, 0), v(n, "no words, ending at 585"), 14, 54);
            broken(more(n, 584, 0), v(n, "no words, behind THE LENGTH"), 14, 54);
            sound(more(n, 580, 1), v(n, "one word, ending at 584"));
            broken(more(n, 581, 1), v(n, "one word, ending at 585"), 14, 54);
            broken(more(n, 580, 2), v(n, "one word too many"), 14, 54);
            sound(more(n, 100, 241), v(n, "241 words end at 584"));
            broken(more(n, 100, 242), v(n, "242 words"), 14, 54);
            broken(more(n, 100, 32768), v(n, "32768 words: no sign"), 14, 54);
            broken(more(n, 100, 65535), v(n, "65535 words: no sign"), 14, 54);
            broken(with(Stories.apart(n), 54, 65535), v(n, "MORE 65535"), 14, 54);
        }
    }

    private static int[] third(int version, int more, int place, int n) {
        int[] row = with(more(version, more, 3), more + 6, place);
        row[place] = n;
        return row;
    }

    private static void thirdWords() {
        Checks.says(7, "15 if there are three at least, the third one is 0, or 64 at least (the place of that third word)");
        for (int n : LATE) {
            sound(with(more(n, 100, 2), 106, 63), v(n, "two words, 63 behind them"));
            broken(with(more(n, 100, 3), 106, 63), v(n, "three words, the third 63"), 15, 106);
            broken(with(more(n, 100, 4), 106, 63), v(n, "four words, the third 63"), 15, 106);
            sound(more(n, 100, 3), v(n, "three words, the third 0"));
            broken(with(more(n, 100, 3), 106, 1), v(n, "the third 1"), 15, 106);
            sound(with(more(n, 100, 3), 106, 64), v(n, "the third 64"));
            broken(with(more(n, 576, 3), 582, 63), v(n, "MORE at its end, the third 63"), 15, 582);
            broken(with(more(n, 68, 3), 74, 63), v(n, "MORE at 68, the third 63"), 15, 74);
        }
        Checks.says(7, "a byte n there, and 2 n bytes behind it, not beyond THE LENGTH");
        for (int n : LATE) {
            sound(third(n, 100, 583, 0), v(n, "n = 0 at 583"));
            broken(third(n, 100, 584, 0), v(n, "n = 0 at 584"), 15, 106);
            broken(third(n, 100, 583, 1), v(n, "n = 1 at 583"), 15, 106);
            sound(third(n, 100, 581, 1), v(n, "n = 1 at 581"));
            broken(third(n, 100, 582, 1), v(n, "n = 1 at 582"), 15, 106);
            sound(third(n, 576, 73, 255), v(n, "n = 255 at 73"));
            broken(third(n, 576, 74, 255), v(n, "n = 255 at 74"), 15, 582);
            sound(third(n, 100, 73, 200), v(n, "n = 200 at 73"));
        }
    }

    private static void notThere() {
        Checks.says(7, "a byte that a rule needs and that is not THERE breaks it");
        for (int n : ALL) {
            for (int size : new int[] {544, 552, 600}) {
                notThere(n, size);
            }
        }
    }

    /** THE LENGTH is SIZE here, so that a rule that looks at THE LENGTH alone would look beyond the row. */
    private static void notThere(int n, int size) {
        int[] row = with(cut(Stories.least(n), size), 26, size / Stories.scale(n));
        sound(row, v(n, "as it was"));
        row[size - 1] = 6;
        broken(with(row, 8, size), v(n, "no byte n"), 9, 8);
        broken(with(row, 8, size + 1), v(n, "no byte n, by far"), 9, 8);
        row[size - 1] = 0;
        broken(with(row, 8, size - 1), v(n, "no byte for how long"), 9, 8);
        row[size - 1] = 6;
        row[size - 2] = 0;
        broken(with(row, 8, size - 2), v(n, "no TWO for how many"), 9, 8);
        row[size - 1] = 0;
        row[size - 2] = 6;
        row[size - 3] = 0;
        broken(with(row, 8, size - 3), v(n, "half a TWO for how many"), 9, 8);
        row[size - 3] = 6;
        row[size - 4] = 0;
        row[size - 2] = 0;
        sound(with(row, 8, size - 4), v(n, "the last four bytes are WORDS"));
        row[100] = 255;
        row[356] = 6;
        sound(with(row, 8, 100), v(n, "255 signs"));
        row[size - 100] = 255;
        broken(with(row, 8, size - 100), v(n, "signs beyond the last byte"), 9, 8);
        if (n >= 5) {
            row[size - 1] = 0;
            broken(with(row, 54, size), v(n, "no TWO at MORE"), 14, 54);
            broken(with(row, 54, size - 1), v(n, "half a TWO at MORE"), 14, 54);
            Stories.two(row, 110, 3);
            row[116] = size >> 8;
            row[117] = size & 255;
            broken(with(row, 54, 110), v(n, "no byte n at the third word"), 15, 116);
            broken(with(row, 46, size), v(n, "no byte at ENDS"), 13, 46);
        }
    }

    private static final int[] BREAKERS = {2, 3, 4, 5, 6, 7, 8, 9, 10, 11, 12, 13, 14, 15};

    private static void breakRule(int[] row, int rule) {
        switch (rule) {
            case 4 -> Stories.two(row, 26, 1);
            case 5 -> Stories.two(row, 14, 63);
            case 6 -> Stories.two(row, 4, 551);
            case 7 -> Stories.two(row, 12, 63);
            case 8 -> Stories.two(row, 10, 63);
            case 9 -> Stories.two(row, 8, 63);
            case 10 -> Stories.two(row, 24, 63);
            case 11 -> Stories.two(row, 6, 15);
            case 12 -> Stories.two(row, 52, 63);
            case 13 -> Stories.two(row, 46, 63);
            case 14 -> Stories.two(row, 576, 4);
            case 15 -> Stories.two(row, 582, 63);
            default -> row[0] = 9;
        }
    }

    private static boolean isJudged(int version, int rule) {
        return rule < 10 || rule == 11 || rule == 10 && version > 1 || version > 4;
    }

    /** Every choice of rules that are broken at once: the first of them is told. */
    private static void order() {
        Checks.says(7, "RULES, judged in this order; the first one that is broken is told with its PLACE");
        int[] places = {0, 0, 0, 63, 26, 14, 4, 12, 10, 8, 24, 6, 52, 46, 54, 582};
        for (int version : ALL) {
            for (int choice = 1; choice < 1 << BREAKERS.length; choice++) {
                int[] row = more(version, 576, 3);
                int first = 0;
                for (int k = BREAKERS.length - 1; k >= 0; k--) {
                    int rule = BREAKERS[k];
                    if ((choice >> k & 1) == 1) {
                        row = rule == 3 ? cut(row, 63) : row;
                        if (rule != 3) {
                            breakRule(row, rule);
                        }
                        first = isJudged(version, rule) ? rule : first;
                    }
                }
                ZHeads x = Stories.made(row);
                String what = v(version, "choice " + choice);
                Checks.due("read() of " + what, x.read(), first == 0 ? version : -20 - places[first]);
                Checks.due("rule() of " + what, x.rule(), first);
            }
        }
    }

    private static void latestRule() {
        Checks.says(8, "The RULE that the latest read() found broken");
        ZHeads x = Stories.made(with(Stories.least(5), 14, 63));
        x.read();
        Checks.due("rule() after read()", x.rule(), 5);
        Checks.due("rule() asked again", x.rule(), 5);
        x.poke(14, 2);
        x.poke(15, 32);
        Checks.due("rule() after poke(): it is the latest read()'s", x.rule(), 5);
        x.octet(0);
        x.feed(0, 1);
        x.fill(1, 0);
        Checks.due("rule() after bytes came", x.rule(), 5);
        x.poke(12, 255);
        x.read();
        Checks.due("rule() after the next read()", x.rule(), 7);
        Checks.says(8, "0: none, or there was none since clear()");
        Checks.due("rule() of a new object", new ZHeads().rule(), 0);
        Checks.due("rule() ahead of read()", Stories.made(new int[] {9}).rule(), 0);
        x.poke(12, 0);
        Checks.due("read() mended", x.read(), 5);
        Checks.due("rule() mended", x.rule(), 0);
        x.poke(0, 0);
        Checks.due("rule() of what was sound", x.rule(), 0);
        x.read();
        Checks.due("rule() of version 0", x.rule(), 2);
        x.clear();
        Checks.due("rule() after clear()", x.rule(), 0);
        x.octet(9);
        Checks.due("rule() after clear() and a byte", x.rule(), 0);
        x.read();
        Checks.due("rule() after clear() and read()", x.rule(), 2);
        x.clear();
        x.clear();
        Checks.due("rule() after clear() of none", x.rule(), 0);
    }

    public static void main(String[] args) {
        soundStories();
        someByte();
        versions();
        sizes();
        lengths();
        lengthUntold();
        statics();
        highs();
        globals();
        objects();
        wordPlaces();
        wordEntries();
        wordCounts();
        shorts();
        starts();
        aheadOfFive();
        letters();
        ends();
        moreWords();
        thirdWords();
        notThere();
        order();
        latestRule();
        Checks.end(7, 8);
    }
}
