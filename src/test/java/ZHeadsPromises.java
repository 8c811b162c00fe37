import java.util.function.IntSupplier;

/** Each promise of the document by itself: ordinary inputs, the edges it names, wrong inputs. */
public final class ZHeadsPromises {
    private static final int AIOOBE = Checks.INDEX;
    private static final int ARITHMETIC = Checks.ARITHMETIC;
    private static int wrong = 0;
    private static int checks = 0;

    private static void due(int promise, String call, int got, int want) {
        checks++;
        if (got != want) {
            wrong++;
            System.out.println("promise " + promise + ": " + call + " answered " + got + ", due is " + want);
        }
    }

    private static int answer(IntSupplier call) {
        return Checks.answer(call);
    }

    private static void two(int[] row, int place, int v) {
        Stories.two(row, place, v);
    }

    private static int scale(int version) {
        return Stories.scale(version);
    }

    /** A sound story of 600 bytes in which every table that its version has is told. */
    private static int[] story(int version) {
        int[] row = new int[600];
        row[0] = version;
        two(row, 2, 0xABCD);
        two(row, 4, 560);
        two(row, 6, version == 6 ? 50 : 300);
        two(row, 8, 552);
        two(row, 10, 70);
        two(row, 12, 66);
        two(row, 14, 548);
        for (int i = 0; i < 6; i++) {
            row[18 + i] = 200 + i;
        }
        two(row, 24, 100);
        two(row, 26, 600 / scale(version));
        two(row, 28, 0x1234);
        two(row, 40, 5);
        two(row, 42, 7);
        two(row, 46, 400);
        two(row, 52, 320);
        two(row, 54, 420);
        for (int i = 64; i < 600; i++) {
            row[i] = i * 7 % 255 + 1;
        }
        row[410] = 0;
        two(row, 420, 3);
        two(row, 426, 440);
        row[440] = 2;
        row[552] = 3;
        row[553] = 250;
        row[554] = 44;
        row[555] = 46;
        row[556] = version <= 3 ? 4 : 6;
        two(row, 557, 5);
        return row;
    }

    private static ZHeads of(int[] row) {
        return Stories.made(row);
    }

    private static ZHeads readOf(int version) {
        ZHeads x = of(story(version));
        x.read();
        return x;
    }

    private static int[] cut(int[] row, int n) {
        return java.util.Arrays.copyOf(row, n);
    }

    /** A story with one TWO changed is judged: the rule broken (0: none) and its place. */
    private static void judged(int version, int at, int v, int rule, int place) {
        int[] row = story(version);
        two(row, at, v);
        judged(row, "version " + version + " with " + v + " at " + at, rule, place);
    }

    private static void judged(int[] row, String what, int rule, int place) {
        ZHeads x = of(row);
        due(7, "read() of " + what, x.read(), rule == 0 ? row[0] : -20 - place);
        due(8, "rule() of " + what, x.rule(), rule);
        due(9, "field(0) of " + what, x.field(0), rule == 0 ? row[0] : ZHeads.STATE);
    }

    private static void newObject() {
        ZHeads x = new ZHeads();
        due(1, "size()", x.size(), 0);
        due(1, "rule()", x.rule(), 0);
        due(1, "clear()", x.clear(), 0);
        due(1, "read()", x.read(), -20);
        due(1, "rule()", x.rule(), 1);
        due(1, "NONE", ZHeads.NONE, -5);
    }

    private static void stateRefusals(ZHeads x, String when) {
        due(9, when + " field(0)", x.field(0), ZHeads.STATE);
        due(9, when + " field(99)", x.field(99), ZHeads.STATE);
        due(10, when + " serial(0)", answer(() -> x.serial(0)), ZHeads.STATE);
        due(10, when + " serial(9)", answer(() -> x.serial(9)), ZHeads.STATE);
        due(11, when + " global(0)", answer(() -> x.global(0)), ZHeads.STATE);
        due(11, when + " global(-1)", answer(() -> x.global(-1)), ZHeads.STATE);
        due(12, when + " load(0)", answer(() -> x.load(0)), ZHeads.STATE);
        due(12, when + " load(-1)", answer(() -> x.load(-1)), ZHeads.STATE);
        due(13, when + " store(64, 1)", x.store(64, 1), ZHeads.STATE);
        due(13, when + " store(0, 1)", x.store(0, 1), ZHeads.STATE);
        due(14, when + " packed(1, true)", x.packed(1, true), ZHeads.STATE);
        due(14, when + " packed(-1, true)", x.packed(-1, true), ZHeads.STATE);
        due(15, when + " first(1, true)", answer(() -> x.first(1, true)), ZHeads.STATE);
        due(15, when + " first(-1, true)", answer(() -> x.first(-1, true)), ZHeads.STATE);
        due(15, when + " first(65535, true)", answer(() -> x.first(65535, true)), ZHeads.STATE);
        due(16, when + " sum()", x.sum(), ZHeads.STATE);
        due(17, when + " agrees()", x.agrees(), ZHeads.STATE);
        due(18, when + " flag(2, 0, ..)", x.flag(2, 0, true, true), ZHeads.STATE);
        due(18, when + " flag(3, 0, ..)", x.flag(3, 0, true, true), ZHeads.STATE);
        due(19, when + " isOn(2, 0)", x.isOn(2, 0), ZHeads.STATE);
        due(19, when + " isOn(0, 0)", x.isOn(0, 0), ZHeads.STATE);
        due(20, when + " set(10, 1)", x.set(10, 1), ZHeads.STATE);
        due(20, when + " set(11, 1)", x.set(11, 1), ZHeads.STATE);
        due(21, when + " restart()", x.restart(), ZHeads.STATE);
        due(22, when + " sign(0)", answer(() -> x.sign(0)), ZHeads.STATE);
        due(22, when + " sign(-1)", answer(() -> x.sign(-1)), ZHeads.STATE);
        due(23, when + " ratio(true)", answer(() -> x.ratio(true)), ZHeads.STATE);
        due(23, when + " ratio(false)", answer(() -> x.ratio(false)), ZHeads.STATE);
    }

    private static void states() {
        stateRefusals(new ZHeads(), "new:");
        stateRefusals(of(story(5)), "not judged:");
        int[] broken = story(5);
        two(broken, 54, 63);
        ZHeads x = of(broken);
        x.read();
        stateRefusals(x, "broken:");
        ZHeads poked = readOf(5);
        due(5, "poke(70, same)", poked.poke(70, story(5)[70]), story(5)[70]);
        stateRefusals(poked, "poked:");
        ZHeads cleared = readOf(5);
        cleared.clear();
        stateRefusals(cleared, "cleared:");
        int[] shorter = cut(story(3), 590);
        two(shorter, 26, 0);
        for (int way = 0; way < 3; way++) {
            ZHeads grown = of(shorter);
            due(7, "read() of 590", grown.read(), 3);
            due(24, "grown by way " + way, way == 0 ? grown.octet(0) : way == 1 ? grown.feed(0L, 1) : grown.fill(1, 0), 591);
            stateRefusals(grown, "grown:");
            due(7, "read() of 591", grown.read(), 3);
            due(9, "field(1) of 591", grown.field(1), 591);
        }
    }

    private static void refusalsKeepWhatIsRead() {
        ZHeads x = readOf(5);
        x.store(64, 9);
        due(2, "octet(256)", x.octet(256), ZHeads.OUTSIDE);
        due(2, "octet(0) at 600", x.octet(0), ZHeads.FULL);
        due(3, "feed(0, 0)", x.feed(0, 0), ZHeads.OUTSIDE);
        due(3, "feed(0, 1) at 600", x.feed(0, 1), ZHeads.FULL);
        due(4, "fill(1, 256)", x.fill(1, 256), ZHeads.OUTSIDE);
        due(4, "fill(1, 0) at 600", x.fill(1, 0), ZHeads.FULL);
        due(5, "poke(600, 0)", x.poke(600, 0), ZHeads.OUTSIDE);
        due(5, "poke(0, -1)", x.poke(0, -1), ZHeads.OUTSIDE);
        due(7, "field(0) after refusals", x.field(0), 5);
        due(12, "load(64) after refusals", x.load(64), 9);
    }

    private static void octets() {
        ZHeads x = new ZHeads();
        due(2, "octet(-1)", x.octet(-1), ZHeads.OUTSIDE);
        due(2, "octet(256)", x.octet(256), ZHeads.OUTSIDE);
        due(2, "octet(min)", x.octet(Integer.MIN_VALUE), ZHeads.OUTSIDE);
        due(2, "octet(255)", x.octet(255), 1);
        due(2, "octet(0)", x.octet(0), 2);
        due(2, "poke(0, 1)", x.poke(0, 1), 255);
        due(2, "poke(1, 1)", x.poke(1, 1), 0);
        x.fill(597, 1);
        due(2, "octet(7) as the last", x.octet(7), 600);
        due(2, "octet(7) beyond", x.octet(7), ZHeads.FULL);
        due(2, "octet(256) beyond", x.octet(256), ZHeads.OUTSIDE);
        due(2, "size()", x.size(), 600);
    }

    private static void feeds() {
        ZHeads x = new ZHeads();
        due(3, "feed(.., 0)", x.feed(1L, 0), ZHeads.OUTSIDE);
        due(3, "feed(.., 9)", x.feed(1L, 9), ZHeads.OUTSIDE);
        due(3, "feed(.., -1)", x.feed(1L, -1), ZHeads.OUTSIDE);
        due(3, "feed(.., max)", x.feed(1L, Integer.MAX_VALUE), ZHeads.OUTSIDE);
        due(3, "feed(.., 8)", x.feed(0x8182838485868788L, 8), 8);
        for (int i = 0; i < 8; i++) {
            due(3, "byte " + i, x.poke(i, 0), 0x81 + i);
        }
        due(3, "feed(.., 3)", x.feed(0xFFFFFFFFFF010203L, 3), 11);
        due(3, "byte 8", x.poke(8, 0), 1);
        due(3, "byte 9", x.poke(9, 0), 2);
        due(3, "byte 10", x.poke(10, 0), 3);
        due(3, "feed(-1, 1)", x.feed(-1L, 1), 12);
        due(3, "byte 11", x.poke(11, 0), 255);
        x.fill(583, 0);
        due(3, "feed(.., 6) with room for 5", x.feed(0L, 6), ZHeads.FULL);
        due(3, "size() after that", x.size(), 595);
        due(3, "feed(.., 9) with room for 5", x.feed(0L, 9), ZHeads.OUTSIDE);
        due(3, "feed(.., 5) with room for 5", x.feed(0L, 5), 600);
        due(3, "feed(.., 1) with no room", x.feed(0L, 1), ZHeads.FULL);
    }

    private static void fills() {
        ZHeads x = new ZHeads();
        due(4, "fill(0, 0)", x.fill(0, 0), ZHeads.OUTSIDE);
        due(4, "fill(601, 0)", x.fill(601, 0), ZHeads.OUTSIDE);
        due(4, "fill(max, 0)", x.fill(Integer.MAX_VALUE, 0), ZHeads.OUTSIDE);
        due(4, "fill(min, 0)", x.fill(Integer.MIN_VALUE, 0), ZHeads.OUTSIDE);
        due(4, "fill(1, -1)", x.fill(1, -1), ZHeads.OUTSIDE);
        due(4, "fill(1, 256)", x.fill(1, 256), ZHeads.OUTSIDE);
        due(4, "fill(600, 255)", x.fill(600, 255), 600);
        due(4, "poke(599, 0)", x.poke(599, 0), 255);
        due(4, "fill(601, 0) when full", x.fill(601, 0), ZHeads.OUTSIDE);
        due(4, "fill(600, 0) when full", x.fill(600, 0), ZHeads.FULL);
        x.clear();
        due(4, "fill(2, 9)", x.fill(2, 9), 2);
        due(4, "fill(599, 9)", x.fill(599, 9), ZHeads.FULL);
        due(4, "size()", x.size(), 2);
        due(4, "fill(598, 9)", x.fill(598, 9), 600);
    }

    private static void pokes() {
        ZHeads x = new ZHeads();
        due(5, "poke(0, 0) of none", x.poke(0, 0), ZHeads.OUTSIDE);
        x.fill(3, 200);
        due(5, "poke(3, 0)", x.poke(3, 0), ZHeads.OUTSIDE);
        due(5, "poke(-1, 0)", x.poke(-1, 0), ZHeads.OUTSIDE);
        due(5, "poke(min, 0)", x.poke(Integer.MIN_VALUE, 0), ZHeads.OUTSIDE);
        due(5, "poke(max, 0)", x.poke(Integer.MAX_VALUE, 0), ZHeads.OUTSIDE);
        due(5, "poke(2, 256)", x.poke(2, 256), ZHeads.OUTSIDE);
        due(5, "poke(2, -1)", x.poke(2, -1), ZHeads.OUTSIDE);
        due(5, "poke(2, 255)", x.poke(2, 255), 200);
        due(5, "poke(2, 0)", x.poke(2, 0), 255);
        ZHeads y = readOf(4);
        int was = story(4)[100];
        y.store(100, was + 1);
        due(5, "poke(100, 1) after store: of THE FILE", y.poke(100, 1), was);
        y.read();
        due(5, "load(100) after poke and read", y.load(100), 1);
    }

    private static void clears() {
        ZHeads x = of(story(3));
        x.poke(0, 9);
        x.read();
        due(6, "rule()", x.rule(), 2);
        due(6, "clear()", x.clear(), 600);
        due(6, "size()", x.size(), 0);
        due(6, "rule() after clear()", x.rule(), 0);
        due(6, "clear() again", x.clear(), 0);
        due(6, "poke(0, 0)", x.poke(0, 0), ZHeads.OUTSIDE);
        due(6, "octet(3)", x.octet(3), 1);
        due(6, "read()", x.read(), -21);
    }

    private static void firstRules() {
        due(7, "read() of none", new ZHeads().read(), -20);
        for (int b = 0; b <= 255; b++) {
            ZHeads x = new ZHeads();
            x.octet(b);
            boolean known = b >= 1 && b <= 8;
            due(7, "read() of one byte " + b, x.read(), known ? -21 : -20);
            due(8, "rule() of one byte " + b, x.rule(), known ? 3 : 2);
        }
        int[] row = new int[600];
        row[0] = 3;
        judged(cut(row, 63), "63 bytes", 3, 63);
        judged(cut(row, 64), "64 bytes", 5, 14);
        for (int v = 1; v <= 8; v++) {
            judged(story(v), "sound version " + v, 0, 0);
            judged(v, 26, 63 / scale(v), 4, 26);
            judged(v, 26, 600 / scale(v) + 1, 4, 26);
            judged(v, 26, 65535, 4, 26);
            judged(v, 26, 64 / scale(v), 5, 14);
            judged(v, 26, 0, v <= 3 ? 0 : 4, 26);
            judged(cut(story(v), 599), "version " + v + " cut by one byte", 4, 26);
            judged(v, 14, 63, 5, 14);
            judged(v, 14, 601, 5, 14);
            judged(v, 14, 600, 6, 4);
            judged(v, 14, 64, 7, 12);
            judged(v, 4, 547, 6, 4);
            judged(v, 4, 548, 0, 0);
            judged(v, 4, 600, 0, 0);
            judged(v, 4, 601, 6, 4);
            judged(v, 12, 63, 7, 12);
            judged(v, 12, 64, 0, 0);
            judged(v, 12, 68, 0, 0);
            judged(v, 12, 69, 7, 12);
            int objects = v <= 3 ? 62 : 126;
            judged(v, 10, 63, 8, 10);
            judged(v, 10, 64, 0, 0);
            judged(v, 10, 548 - objects, 0, 0);
            judged(v, 10, 549 - objects, 8, 10);
        }
    }

    private static void words(int version, int n, int entry, int many, int rule) {
        int[] row = story(version);
        row[552] = n;
        if (556 + n < 600) {
            row[553 + n] = entry;
            two(row, 554 + n, many);
        }
        judged(row, "version " + version + " words " + n + ", " + entry + ", " + many, rule, 8);
    }

    private static void wordRules() {
        for (int v = 1; v <= 8; v++) {
            int least = v <= 3 ? 4 : 6;
            words(v, 3, least - 1, 1, 9);
            words(v, 3, least, 0, 0);
            words(v, 3, 0, 0, 9);
            words(v, 0, 11, 4, 0);
            words(v, 0, 11, -4 & 65535, 0);
            words(v, 1, 11, 4, 9);
            words(v, 1, 11, -4 & 65535, 9);
            words(v, 0, 11, 5, 9);
            words(v, 0, 22, 32768, 9);
            words(v, 0, 22, 65535, 0);
            words(v, 43, 255, 0, 0);
            words(v, 3, 41, 1, 0);
            words(v, 3, 42, 1, 9);
            words(v, 44, 0, 0, 9);
            words(v, 255, 0, 0, 9);
            judged(v, 8, 63, 9, 8);
            judged(v, 8, 0, 9, 8);
            for (int at = 597; at <= 602; at++) {
                judged(v, 8, at, 9, 8);
            }
            judged(v, 8, 65535, 9, 8);
        }
        int[] low = story(4);
        two(low, 8, 64);
        low[64] = 0;
        low[65] = 6;
        two(low, 66, 3);
        judged(low, "words just behind the head", 0, 0);
        int[] row = story(3);
        two(row, 8, 596);
        row[596] = 0;
        row[597] = 4;
        two(row, 598, 0);
        judged(row, "words in the last four bytes", 0, 0);
        two(row, 26, 299);
        judged(row, "words that end behind THE LENGTH", 9, 8);
        row[597] = 3;
        two(row, 26, 300);
        judged(row, "words with short entries at the end", 9, 8);
    }

    private static void shortAndStartRules() {
        judged(1, 24, 1, 0, 0);
        judged(1, 24, 65535, 0, 0);
        for (int v = 2; v <= 8; v++) {
            int bytes = v == 2 ? 64 : 192;
            judged(v, 24, 0, 0, 0);
            judged(v, 24, 1, 10, 24);
            judged(v, 24, 63, 10, 24);
            judged(v, 24, 64, 0, 0);
            judged(v, 24, 600 - bytes, 0, 0);
            judged(v, 24, 601 - bytes, 10, 24);
        }
        for (int v = 1; v <= 8; v++) {
            if (v != 6) {
                judged(v, 6, 63, 11, 6);
                judged(v, 6, 64, 0, 0);
                judged(v, 6, 599, 0, 0);
                judged(v, 6, 600, 11, 6);
            }
        }
        judged(6, 6, 5, 11, 6);
        judged(6, 6, 6, 0, 0);
        judged(6, 6, 139, 0, 0);
        judged(6, 6, 140, 11, 6);
        judged(6, 40, 49, 0, 0);
        judged(6, 40, 50, 11, 6);
        judged(7, 40, 65535, 0, 0);
    }

    private static void lateRules() {
        for (int at : new int[] {46, 52, 54}) {
            int rule = at == 46 ? 13 : at == 52 ? 12 : 14;
            for (int v = 1; v <= 8; v++) {
                judged(v, at, 0, 0, 0);
                judged(v, at, 1, v < 5 ? 0 : rule, at);
                judged(v, at, 63, v < 5 ? 0 : rule, at);
                judged(v, at, 600, v < 5 ? 0 : rule, at);
                judged(v, at, 65535, v < 5 ? 0 : rule, at);
            }
        }
        for (int v = 5; v <= 8; v++) {
            judged(v, 52, 64, 0, 0);
            judged(v, 52, 522, 0, 0);
            judged(v, 52, 523, 12, 52);
            judged(v, 46, 64, 0, 0);
            judged(v, 46, 410, 0, 0);
            judged(v, 46, 599, 13, 46);
            int[] row = story(v);
            two(row, 46, 590);
            row[599] = 0;
            judged(row, "version " + v + " ends at the last byte", 0, 0);
            two(row, 26, 592 / scale(v));
            judged(row, "version " + v + " ends behind THE LENGTH", 13, 46);
            row[592] = 0;
            judged(row, "version " + v + " ends at THE LENGTH", 13, 46);
            row[591] = 0;
            judged(row, "version " + v + " ends just ahead of THE LENGTH", 0, 0);
            moreRules(v);
        }
    }

    private static void moreRules(int v) {
        int[] row = story(v);
        two(row, 54, 594);
        two(row, 594, 2);
        judged(row, "version " + v + " two words more at the end", 0, 0);
        two(row, 594, 3);
        judged(row, "version " + v + " one word too many", 14, 54);
        two(row, 594, 65535);
        judged(row, "version " + v + " far too many words", 14, 54);
        two(row, 54, 595);
        two(row, 595, 2);
        judged(row, "version " + v + " words that end one byte too far", 14, 54);
        two(row, 54, 598);
        two(row, 598, 0);
        judged(row, "version " + v + " no words at the end", 0, 0);
        judged(v, 54, 599, 14, 54);
        two(row, 54, 592);
        two(row, 592, 3);
        for (int third : new int[] {0, 1, 63, 64, 597, 598, 599, 600, 601, 65535}) {
            two(row, 598, third);
            if (third >= 64 && third < 598) {
                row[third] = 1;
            }
            boolean sound = third == 0 || third == 64 || third == 597;
            judged(row, "version " + v + " third word " + third, sound ? 0 : 15, 598);
        }
        two(row, 598, 594);
        row[594] = 2;
        judged(row, "version " + v + " third table of 5 bytes", 0, 0);
        row[594] = 3;
        judged(row, "version " + v + " third table of 7 bytes", 15, 598);
        two(row, 592, 2);
        judged(row, "version " + v + " no third word", 0, 0);
        judged(v, 426, 63, 15, 426);
        two(row, 54, 0);
        judged(row, "version " + v + " nothing more", 0, 0);
    }

    private static void orderOfRules() {
        int[] row = story(8);
        int[] at = {54, 46, 52, 6, 24, 8, 10, 12, 4, 14, 26};
        int[] rule = {14, 13, 12, 11, 10, 9, 8, 7, 6, 5, 4};
        for (int i = 0; i < at.length; i++) {
            two(row, at[i], 1);
            judged(row, "breaking rules down to " + rule[i], rule[i], at[i]);
        }
    }

    private static void rules() {
        ZHeads x = of(story(5));
        due(8, "rule() ahead of read()", x.rule(), 0);
        x.poke(14, 255);
        due(7, "read()", x.read(), -34);
        due(8, "rule()", x.rule(), 5);
        x.poke(14, 548 >> 8);
        due(8, "rule() after poke(): of the latest read()", x.rule(), 5);
        due(7, "read() mended", x.read(), 5);
        due(8, "rule() mended", x.rule(), 0);
    }

    /** What a longer file left behind its end is not there for a shorter one. */
    private static void bytesLeftBehind() {
        ZHeads x = readOf(3);
        x.clear();
        int[] row = cut(story(3), 568);
        two(row, 26, 0);
        row[552] = 0;
        row[553] = 4;
        two(row, 554, 3);
        Stories.put(x, row);
        due(7, "read() of the shorter file", x.read(), 3);
        due(9, "field(1)", x.field(1), 568);
        due(12, "load(567)", answer(() -> x.load(567)), row[567]);
        due(12, "load(568)", answer(() -> x.load(568)), AIOOBE);
        due(15, "first(283, true)", answer(() -> x.first(283, true)), row[566]);
        due(15, "first(284, true)", answer(() -> x.first(284, true)), AIOOBE);
        due(5, "poke(568, 0)", x.poke(568, 0), ZHeads.OUTSIDE);
    }

    private static void readAgain() {
        ZHeads x = readOf(5);
        x.store(64, 77);
        x.set(0, 6);
        x.flag(2, 0, true, true);
        due(7, "read() again", x.read(), 5);
        due(12, "load(64) is as READ again", x.load(64), story(5)[64]);
        due(12, "load(30) is as READ again", x.load(30), 0);
        due(19, "isOn(2, 0) is as READ again", x.isOn(2, 0), 0);
        due(21, "restart() differs in none", x.restart(), 0);
    }

    private static void fields() {
        for (int v = 1; v <= 8; v++) {
            ZHeads x = readOf(v);
            int[] want = {v, 600, 548, 560, 66, 70, 552, v == 1 ? 0 : 100, v == 6 ? 240 : 300,
                v < 5 ? 0 : 320, v < 5 ? 0 : 400, v < 5 ? 0 : 3, v < 5 ? 0 : 440,
                0xABCD, 0x1234, 5, v <= 3 ? 4 : 6, 3};
            for (int i = 0; i < want.length; i++) {
                due(9, "version " + v + " field(" + i + ")", x.field(i), want[i]);
            }
            due(9, "field(-1)", x.field(-1), ZHeads.OUTSIDE);
            due(9, "field(18)", x.field(18), ZHeads.OUTSIDE);
            due(9, "field(max)", x.field(Integer.MAX_VALUE), ZHeads.OUTSIDE);
            due(9, "field(min)", x.field(Integer.MIN_VALUE), ZHeads.OUTSIDE);
        }
        int[] row = story(5);
        two(row, 557, 65535);
        two(row, 420, 2);
        ZHeads x = of(row);
        x.read();
        due(9, "field(15) unsorted", x.field(15), -1);
        due(9, "field(11) of two", x.field(11), 2);
        due(9, "field(12) of two", x.field(12), 0);
        two(row, 54, 0);
        ZHeads y = of(row);
        y.read();
        due(9, "field(11) of none", y.field(11), 0);
        due(9, "field(12) of none", y.field(12), 0);
        int[] part = story(2);
        two(part, 26, 290);
        ZHeads z = of(part);
        z.read();
        due(9, "field(1) below SIZE", z.field(1), 580);
    }

    /** The tables may stand where the story changes bytes; what is told of them is as READ. */
    private static void fieldsAsRead() {
        int[] row = story(5);
        two(row, 8, 500);
        row[500] = 2;
        row[503] = 7;
        two(row, 504, 3);
        ZHeads x = of(row);
        due(9, "read()", x.read(), 5);
        for (int place = 420; place <= 427; place++) {
            x.store(place, 0);
        }
        for (int place = 500; place <= 505; place++) {
            x.store(place, 0);
        }
        due(9, "field(11)", x.field(11), 3);
        due(9, "field(12)", x.field(12), 440);
        due(9, "field(15)", x.field(15), 3);
        due(9, "field(16)", x.field(16), 7);
        due(9, "field(17)", x.field(17), 2);
        due(22, "sign(0)", answer(() -> x.sign(0)), row[501]);
        due(22, "sign(1)", answer(() -> x.sign(1)), row[502]);
        due(22, "sign(2)", answer(() -> x.sign(2)), AIOOBE);
        due(23, "ratio(false)", answer(() -> x.ratio(false)), 85);
        due(23, "ratio(true)", answer(() -> x.ratio(true)), 200);
    }

    private static void serials() {
        ZHeads x = readOf(3);
        for (int i = 0; i < 6; i++) {
            int k = i;
            due(10, "serial(" + i + ")", answer(() -> x.serial(k)), 200 + i);
        }
        due(10, "serial(-1)", answer(() -> x.serial(-1)), AIOOBE);
        due(10, "serial(6)", answer(() -> x.serial(6)), AIOOBE);
        due(10, "serial(max)", answer(() -> x.serial(Integer.MAX_VALUE)), AIOOBE);
        due(10, "serial(min)", answer(() -> x.serial(Integer.MIN_VALUE)), AIOOBE);
    }

    private static void globals() {
        int[] row = story(3);
        ZHeads x = readOf(3);
        for (int k = 0; k < 240; k++) {
            int g = k;
            due(11, "global(" + k + ")", answer(() -> x.global(g)), (short) (row[66 + 2 * k] * 256 + row[67 + 2 * k]));
        }
        x.store(66, 0x80);
        x.store(67, 0x01);
        due(11, "global(0) below 0", answer(() -> x.global(0)), -32767);
        x.store(544, 0x7F);
        x.store(545, 0xFF);
        due(11, "global(239)", answer(() -> x.global(239)), 32767);
        due(11, "global(240)", answer(() -> x.global(240)), AIOOBE);
        due(11, "global(-1)", answer(() -> x.global(-1)), AIOOBE);
        due(11, "global(max)", answer(() -> x.global(Integer.MAX_VALUE)), AIOOBE);
        due(11, "global(min)", answer(() -> x.global(Integer.MIN_VALUE)), AIOOBE);
    }

    private static void loads() {
        int[] row = cut(story(3), 590);
        two(row, 26, 290);
        ZHeads x = of(row);
        x.read();
        for (int place = 560; place < 590; place++) {
            int p = place;
            due(12, "load(" + place + ")", answer(() -> x.load(p)), row[place]);
        }
        due(12, "load(1)", answer(() -> x.load(1)), 0);
        due(12, "load(2): bytes have no sign", answer(() -> x.load(2)), 0xAB);
        due(12, "load(590)", answer(() -> x.load(590)), AIOOBE);
        due(12, "load(600)", answer(() -> x.load(600)), AIOOBE);
        due(12, "load(-1)", answer(() -> x.load(-1)), AIOOBE);
        due(12, "load(max)", answer(() -> x.load(Integer.MAX_VALUE)), AIOOBE);
        due(12, "load(min)", answer(() -> x.load(Integer.MIN_VALUE)), AIOOBE);
    }

    private static void stores() {
        int[] row = story(8);
        ZHeads x = readOf(8);
        due(13, "store(63, 1)", x.store(63, 1), ZHeads.BARRED);
        due(13, "store(64, -1)", x.store(64, -1), row[64]);
        due(13, "load(64)", x.load(64), 255);
        due(13, "store(64, 0x1FF00)", x.store(64, 0x1FF00), 255);
        due(13, "load(64)", x.load(64), 0);
        due(13, "store(547, 256 + 7)", x.store(547, 263), row[547]);
        due(13, "load(547)", x.load(547), 7);
        due(13, "store(548, 1)", x.store(548, 1), ZHeads.BARRED);
        due(13, "load(548)", x.load(548), row[548]);
        due(13, "store(600, 1)", x.store(600, 1), ZHeads.BARRED);
        due(13, "store(0, 1)", x.store(0, 1), ZHeads.BARRED);
        due(13, "store(-1, 1)", x.store(-1, 1), ZHeads.BARRED);
        due(13, "store(max, 1)", x.store(Integer.MAX_VALUE, 1), ZHeads.BARRED);
        due(13, "store(min, 1)", x.store(Integer.MIN_VALUE, 1), ZHeads.BARRED);
        due(13, "size()", x.size(), 600);
    }

    private static int unpacked(int v, int a, boolean text) {
        switch (v) {
            case 1: case 2: case 3: return 2 * a;
            case 4: case 5: return 4 * a;
            case 6: case 7: return 4 * a + (text ? 56 : 40);
            default: return 8 * a;
        }
    }

    private static void packedPlaces() {
        for (int v = 1; v <= 8; v++) {
            ZHeads x = readOf(v);
            int[] row = story(v);
            for (int a : new int[] {0, 1, 17, 74, 75, 135, 136, 139, 140, 149, 150, 299, 300, 65535}) {
                for (int t = 0; t < 2; t++) {
                    boolean text = t == 1;
                    int place = unpacked(v, a, text);
                    due(14, "version " + v + " packed(" + a + ", " + text + ")", x.packed(a, text), place);
                    due(15, "version " + v + " first(" + a + ", " + text + ")", answer(() -> x.first(a, text)),
                        place < 600 ? row[place] : AIOOBE);
                }
            }
            for (int a : new int[] {-1, 65536, Integer.MAX_VALUE, Integer.MIN_VALUE}) {
                due(14, "packed(" + a + ")", x.packed(a, false), ZHeads.OUTSIDE);
                due(15, "first(" + a + ")", answer(() -> x.first(a, false)), ZHeads.OUTSIDE);
            }
        }
        int[] far = story(7);
        two(far, 40, 65535);
        two(far, 42, 65535);
        ZHeads x = of(far);
        x.read();
        due(14, "the farthest place", x.packed(65535, true), 12 * 65535);
        ZHeads y = readOf(8);
        y.store(80, 201);
        due(15, "first(10, true) is of THE MEMORY", answer(() -> y.first(10, true)), 201);
    }

    private static void sums() {
        for (int v = 1; v <= 8; v++) {
            int[] row = story(v);
            two(row, 26, 592 / scale(v));
            int sum = 0;
            for (int i = 64; i < 592; i++) {
                sum += row[i];
            }
            ZHeads x = of(row);
            x.read();
            due(16, "version " + v + " sum()", x.sum(), sum % 65536);
            due(16, "the sum is above 65535, to be cut", sum > 65535 ? 1 : 0, 1);
            due(17, "agrees() not", x.agrees(), 0);
            x.store(64, 0);
            x.set(10, 7);
            due(16, "sum() is of the bytes READ", x.sum(), sum % 65536);
            two(row, 28, sum % 65536);
            ZHeads y = of(row);
            y.read();
            due(17, "agrees()", y.agrees(), 1);
            y.store(64, row[64] + 1);
            due(17, "agrees() as READ", y.agrees(), 1);
        }
        int[] row = story(3);
        two(row, 26, 0);
        int sum = 0;
        for (int i = 64; i < 600; i++) {
            sum += row[i];
        }
        ZHeads x = of(row);
        x.read();
        due(16, "sum() of a file that tells no length", x.sum(), sum % 65536);
    }

    /** The rights as the document lists them: the bits that each may put on, and take away. */
    private static boolean may(int v, int word, int bit, boolean on, boolean story) {
        String first = v <= 3 ? "4 5 6" : v == 4 ? "2 3 4 7" : v == 6 ? "0 1 2 3 4 5 7" : "0 2 3 4 7";
        String player = v == 6 ? "0 2" : "0";
        String playerOff = v == 6 ? "3 4 5 6 7 8" : v >= 5 ? "3 4 5 6 7" : "";
        String story2 = v >= 3 ? "0 1" : "0";
        String storyOff = v == 6 ? "2" : "";
        if (word == 1) {
            return !story && has(first, bit);
        }
        return has(story ? story2 : player, bit) || !on && has(story ? storyOff : playerOff, bit);
    }

    private static boolean has(String bits, int bit) {
        for (String b : bits.split(" ")) {
            if (b.equals("" + bit)) {
                return true;
            }
        }
        return false;
    }

    private static void flags() {
        for (int v = 1; v <= 8; v++) {
            for (int was = 0; was < 2; was++) {
                for (int word = 1; word <= 2; word++) {
                    for (int bit = 0; bit < 8 * word; bit++) {
                        for (int way = 0; way < 4; way++) {
                            flagOnce(v, was, word, bit, (way & 1) == 1, (way & 2) == 2);
                        }
                    }
                }
            }
        }
        ZHeads x = readOf(6);
        int[][] outside = {{0, 0}, {3, 0}, {-1, 0}, {1, 8}, {2, 16}, {1, -1}, {2, -1}, {2, 32}, {1, 32},
            {Integer.MIN_VALUE, 0}, {1, Integer.MAX_VALUE}, {2, Integer.MIN_VALUE}};
        for (int[] o : outside) {
            String at = "(" + o[0] + ", " + o[1] + ")";
            due(18, "flag" + at + " by the player", x.flag(o[0], o[1], true, false), ZHeads.OUTSIDE);
            due(18, "flag" + at + " by the story", x.flag(o[0], o[1], false, true), ZHeads.OUTSIDE);
            due(19, "isOn" + at, x.isOn(o[0], o[1]), ZHeads.OUTSIDE);
        }
    }

    private static void flagOnce(int v, int was, int word, int bit, boolean on, boolean story) {
        int[] row = story(v);
        int all = was == 1 ? 65535 : 0;
        int other = 65535 - all;
        row[1] = (word == 1 ? all : other) & 255;
        two(row, 16, word == 2 ? all : other);
        ZHeads x = of(row);
        x.read();
        String call = "version " + v + ", was " + was + ": (" + word + ", " + bit + ", " + on + ", " + story + ")";
        boolean may = may(v, word, bit, on, story);
        due(19, "isOn ahead of " + call, x.isOn(word, bit), was);
        due(18, "flag " + call, x.flag(word, bit, on, story), may ? was : ZHeads.BARRED);
        int now = may ? (on ? 1 : 0) : was;
        due(19, "isOn after " + call, x.isOn(word, bit), now);
        int bits = now == was ? all : all ^ (1 << bit);
        due(18, "load(1) after " + call, x.load(1), (word == 1 ? bits : other) & 255);
        due(18, "load(16) after " + call, x.load(16), (word == 2 ? bits : other) >> 8);
        due(18, "load(17) after " + call, x.load(17), (word == 2 ? bits : other) & 255);
    }

    private static void sets() {
        int[] from = {4, 4, 4, 4, 5, 5, 5, 5, 5, 5, 1};
        for (int v = 1; v <= 8; v++) {
            int[] at = {30, 31, 32, 33, 34, 36, v == 5 ? 38 : 39, v == 5 ? 39 : 38, 44, 45, 50};
            for (int what = 0; what <= 10; what++) {
                setOnce(v, what, at[what], what == 4 || what == 5 || what == 10, v >= from[what]);
            }
            ZHeads x = readOf(v);
            for (int what : new int[] {-1, 11, Integer.MIN_VALUE, Integer.MAX_VALUE}) {
                due(20, "set(" + what + ", 0)", x.set(what, 0), ZHeads.OUTSIDE);
            }
        }
    }

    private static void setOnce(int v, int what, int at, boolean wide, boolean may) {
        int[] row = story(v);
        for (int i = 30; i < 52; i++) {
            if (i < 40 || i == 44 || i == 45 || i >= 50) {
                row[i] = 150 + i;
            }
        }
        ZHeads x = of(row);
        x.read();
        String call = "version " + v + " set(" + what + ", ";
        int most = wide ? 65535 : 255;
        int was = wide ? row[at] * 256 + row[at + 1] : row[at];
        due(20, call + "-1)", x.set(what, -1), ZHeads.OUTSIDE);
        due(20, call + (most + 1) + ")", x.set(what, most + 1), ZHeads.OUTSIDE);
        due(20, call + "max)", x.set(what, Integer.MAX_VALUE), ZHeads.OUTSIDE);
        due(20, call + most + ")", x.set(what, most), may ? was : ZHeads.BARRED);
        due(20, call + (most - 255 + 1) + ")", x.set(what, most - 255 + 1), may ? most : ZHeads.BARRED);
        due(20, call + "0)", x.set(what, 0), may ? most - 255 + 1 : ZHeads.BARRED);
        due(20, call + (most - 1) + ")", x.set(what, most - 1), may ? 0 : ZHeads.BARRED);
        if (may && wide) {
            two(row, at, most - 1);
        } else if (may) {
            row[at] = most - 1;
        }
        for (int i = 0; i < 64; i++) {
            due(20, call + "..) then load(" + i + ")", x.load(i), row[i]);
        }
    }

    private static void restarts() {
        int[] row = story(5);
        ZHeads x = readOf(5);
        x.set(2, 25);
        x.flag(2, 0, true, false);
        due(21, "restart() of nothing", x.restart(), 0);
        x.store(64, row[64] + 1);
        x.store(100, row[100]);
        x.store(547, row[547] + 1);
        x.store(200, row[200] + 1);
        x.store(200, row[200]);
        due(21, "restart()", x.restart(), 2);
        due(21, "load(64)", x.load(64), row[64]);
        due(21, "load(547)", x.load(547), row[547]);
        due(21, "load(32) stays", x.load(32), 25);
        due(21, "isOn(2, 0) stays", x.isOn(2, 0), 1);
        due(21, "restart() again", x.restart(), 0);
        due(21, "field(0): it is READ still", x.field(0), 5);
    }

    private static void signs() {
        ZHeads x = readOf(4);
        due(22, "sign(0): a byte has no sign", answer(() -> x.sign(0)), 250);
        due(22, "sign(1)", answer(() -> x.sign(1)), 44);
        due(22, "sign(2)", answer(() -> x.sign(2)), 46);
        due(22, "sign(3)", answer(() -> x.sign(3)), AIOOBE);
        due(22, "sign(-1)", answer(() -> x.sign(-1)), AIOOBE);
        due(22, "sign(max)", answer(() -> x.sign(Integer.MAX_VALUE)), AIOOBE);
        due(22, "sign(min)", answer(() -> x.sign(Integer.MIN_VALUE)), AIOOBE);
        int[] row = story(4);
        row[552] = 0;
        row[553] = 6;
        two(row, 554, 0);
        ZHeads y = of(row);
        y.read();
        due(22, "sign(0) of none", answer(() -> y.sign(0)), AIOOBE);
    }

    private static void ratios() {
        int[] many = {1, 2, 5, 6, 0, 65535, 65533, 65530};
        int[] want = {592, 296, 118, 98, ARITHMETIC, -592, -197, -98};
        for (int i = 0; i < many.length; i++) {
            int[] row = story(5);
            two(row, 26, 148);
            row[552] = 0;
            row[553] = 6;
            two(row, 554, many[i]);
            ZHeads x = of(row);
            due(23, "read() with " + many[i], x.read(), 5);
            due(23, "ratio(true) by " + many[i], answer(() -> x.ratio(true)), want[i]);
            due(23, "ratio(false)", answer(() -> x.ratio(false)), 98);
        }
        ZHeads x = readOf(3);
        due(23, "ratio(false) of version 3", answer(() -> x.ratio(false)), 150);
        due(23, "ratio(true) of version 3", answer(() -> x.ratio(true)), 120);
    }

    private static void sizes() {
        ZHeads x = new ZHeads();
        due(24, "size() of none", x.size(), 0);
        x.octet(1);
        due(24, "size()", x.size(), 1);
        x.feed(0, 8);
        due(24, "size()", x.size(), 9);
        x.fill(591, 0);
        due(24, "size()", x.size(), 600);
        x.poke(0, 0);
        x.read();
        due(24, "size()", x.size(), 600);
        x.clear();
        due(24, "size()", x.size(), 0);
    }

    public static void main(String[] args) {
        newObject();
        states();
        refusalsKeepWhatIsRead();
        octets();
        feeds();
        fills();
        pokes();
        clears();
        firstRules();
        wordRules();
        shortAndStartRules();
        lateRules();
        orderOfRules();
        rules();
        bytesLeftBehind();
        readAgain();
        fields();
        fieldsAsRead();
        serials();
        globals();
        loads();
        stores();
        packedPlaces();
        sums();
        flags();
        sets();
        restarts();
        signs();
        ratios();
        sizes();
        System.out.println(checks + " checks, " + wrong + " wrong");
        if (wrong != 0) {
            System.exit(1);
        }
    }
}
