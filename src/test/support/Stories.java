/** Sound stories that stand at their bounds, and objects made of them with few calls. */
final class Stories {
    private Stories() {
    }

    static void two(int[] row, int place, int v) {
        row[place] = v >> 8 & 255;
        row[place + 1] = v & 255;
    }

    static int two(int[] row, int place) {
        return row[place] * 256 + row[place + 1];
    }

    static int scale(int version) {
        return version <= 3 ? 2 : version <= 5 ? 4 : 8;
    }

    static int objectBytes(int version) {
        return version <= 3 ? 62 : 126;
    }

    static int shortBytes(int version) {
        return version == 2 ? 64 : 192;
    }

    static int leastEntry(int version) {
        return version <= 3 ? 4 : 6;
    }

    /** The shortest sound story: all that it has begins at 64; STATIC, HIGH, THE LENGTH and SIZE are 544. */
    static int[] least(int version) {
        int[] row = new int[544];
        row[0] = version;
        two(row, 4, 544);
        two(row, 6, version == 6 ? 16 : 64);
        two(row, 8, 64);
        two(row, 10, 64);
        two(row, 12, 64);
        two(row, 14, 544);
        two(row, 26, 544 / scale(version));
        row[65] = leastEntry(version);
        return row;
    }

    /** The longest: all that it has ends at 600, which STATIC, HIGH, THE LENGTH and SIZE are too. */
    static int[] full(int version) {
        int[] row = new int[600];
        row[0] = version;
        two(row, 4, 600);
        two(row, 6, version == 6 ? 149 : 599);
        two(row, 8, 596);
        two(row, 10, 600 - objectBytes(version));
        two(row, 12, 120);
        two(row, 14, 600);
        two(row, 24, 600 - shortBytes(version));
        two(row, 26, 600 / scale(version));
        two(row, 46, 599);
        two(row, 52, 522);
        two(row, 54, 598);
        row[597] = leastEntry(version);
        return row;
    }

    /** STATIC 552, HIGH 560, THE LENGTH 584, SIZE 600: one can't be taken for another. No byte from 68 on is 0. */
    static int[] apart(int version) {
        int[] row = new int[600];
        row[0] = version;
        two(row, 4, 560);
        two(row, 6, version == 6 ? 16 : 64);
        two(row, 8, 64);
        two(row, 10, 64);
        two(row, 12, 64);
        two(row, 14, 552);
        two(row, 26, 584 / scale(version));
        row[65] = leastEntry(version);
        java.util.Arrays.fill(row, 68, 600, 7);
        return row;
    }

    /** Few calls, 75 at most for a whole file, so that an object stays far from its 512th. */
    static ZHeads made(int[] row) {
        ZHeads x = new ZHeads();
        put(x, row);
        return x;
    }

    static void put(ZHeads x, int[] row) {
        int at = 0;
        while (at < row.length) {
            int same = 1;
            while (at + same < row.length && row[at + same] == row[at]) {
                same++;
            }
            int n = same > 8 ? same : Math.min(8, row.length - at);
            if (same > 8) {
                x.fill(n, row[at]);
            } else {
                x.feed(word(row, at, n), n);
            }
            at += n;
        }
    }

    private static long word(int[] row, int at, int n) {
        long w = 0;
        for (int k = 0; k < n; k++) {
            w = w << 8 | row[at + k];
        }
        return w;
    }

    static ZHeads read(int[] row) {
        ZHeads x = made(row);
        if (x.read() < 0) {
            throw new IllegalStateException("the test's own story is not sound: rule " + x.rule());
        }
        return x;
    }
}
