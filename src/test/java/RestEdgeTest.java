/** Promises 14 and 28 to 41 at their edges: draws, voices, sheets, images, what is told. */
public final class RestEdgeTest extends Checks {
    private static final int[] SEEDS = {MIN, MIN + 1, -1000000001, -2, -1, 0, 1, 2, 12345, MAX - 1, MAX};

    /** z behind a draw, worked out among longs. */
    private static int drawn(int z) {
        return (int) ((z & 0xFFFFFFFFL) * 1103515245L + 12345L);
    }

    /** What a draw gives by the z that it made: its highest 24 bits, never below 0. */
    private static int given(int z) {
        return (int) ((z & 0xFFFFFFFFL) / 256);
    }

    private static void draws() {
        for (int seed : SEEDS) {
            test("14: a draw from " + seed + " with one DINER, with seven, with eight", () -> {
                int z = drawn(seed);
                for (int many : new int[] {1, 7, 8}) {
                    LooksServed x = shammers();
                    for (int i = 0; i < many; i++) x.diner(0, 40, 0);
                    x.seed(seed);
                    x.loose(1);
                    int[] shams = new int[many];
                    shams[given(z) % many] = given(z) / 8 % 10;
                    row("SHAMS of " + many, shams, ofAll(x, 3));
                    due("z", x.count(9), z);
                }
            });
            test("14: without DINERS z goes on from " + seed + ", forty times", () -> {
                LooksServed x = new LooksServed();
                x.seed(seed);
                int z = seed;
                for (int i = 0; i < 40; i++) z = drawn(z);
                row("loose", of(0, z, 40), x.loose(40), x.count(9), x.count(2));
            });
        }
        test("14: a draw below 0 is none: z is below 0, what it gives isn't", () -> {
            LooksServed x = shammers(0, 0, 0);
            x.seed(2);
            x.loose(1);
            int z = drawn(2);
            due("z is below 0", z < 0 ? 1 : 0, 1);
            due("SHAM", x.ofDiner(given(z) % 3, 3), given(z) / 8 % 10);
        });
        test("14: every SHAM and every DINER comes", () -> {
            LooksServed x = shammers(0, 0, 0, 0, 0, 0, 0, 0);
            int shams = 0;
            int diners = 0;
            int z = 1;
            for (int i = 0; i < 120; i++) {
                x.loose(1);
                z = drawn(z);
                int diner = given(z) % 8;
                diners |= 1 << diner;
                shams |= 1 << x.ofDiner(diner, 3);
                due("SHAM", x.ofDiner(diner, 3), given(z) / 8 % 10);
            }
            row("all", of(1023, 255), shams, diners);
        });
        test("14: the draw comes ahead of its STEP", () -> {
            LooksServed x = shammers(0, 0, 0);
            // 1103527590 >>> 8 is 4310654: DINER 2 has SHAM 1 then.
            due("loose", x.loose(1), 41 + 41 + 35);
        });
        test("14: those that are GONE are drawn, too, and not served", () -> {
            LooksServed x = shammers(0, 0, 0);
            x.change(2, 3, 1);
            due("loose", x.loose(1), 35 + 41 + 40);
            row("SHAMS", of(0, 0, 1), ofAll(x, 3));
        });
        test("14: forty at once are as forty one by one", () -> {
            LooksServed x = shammers(1, 2, 3, 4, 5);
            LooksServed y = shammers(1, 2, 3, 4, 5);
            int last = 0;
            for (int i = 0; i < 40; i++) last = y.loose(1);
            due("loose", x.loose(40), last);
            row("SHAMS", ofAll(y, 3), ofAll(x, 3));
            row("HAD", ofAll(y, 4), ofAll(x, 4));
        });
        test("13: STEPS make no draws", () -> {
            LooksServed x = shammers(1, 2);
            x.steps(60);
            due("z", x.count(9), 1);
        });
        test("28: any number, what it was, and no ERROR", () -> {
            LooksServed x = new LooksServed();
            int before = 1;
            for (int seed : SEEDS) {
                due("seed", x.seed(seed), before);
                due("z", x.count(9), seed);
                before = seed;
            }
            for (int k = 1; k <= 5; k++) {
                x.seed(-1000000000 - k);
                x.count(9);
                due("seed", x.seed(0), -1000000000 - k);
            }
            all("told", 0, x.told(1), x.told(2), x.told(3), x.told(4), x.told(5));
        });
    }

    /** DINER 1 of a KIND, with m 3. */
    private static LooksServed speaker(int kind) {
        LooksServed x = new LooksServed();
        x.diner(0, 0, 0);
        x.diner(kind * 10 + 3, 0, 0);
        return x;
    }

    private static void voice(String name, int kind, int act, int x, int want, int... bodies) {
        test("29: " + name, () -> {
            LooksServed speaker = speaker(kind);
            due("voice", speaker.voice(1, act, x), want);
            row("THE TRACE", bodies, trace(speaker));
            due("its end", speaker.trace(bodies.length), NONE);
        });
    }

    private static void voices() {
        voice("a DINER looks, round", 0, 0, MAX, MIN, 10);
        voice("a DINER eats, round", 0, 1, MAX, 0, 11, 10);
        voice("a DINER waits, round", 0, 2, MIN, MAX - 2, 12);
        voice("a DINER tells, round", 0, 3, MAX, MAX - 3, 13, 11, 10, 12);
        voice("a PRIEST looks, round", 1, 0, MAX, MIN, 20, 10);
        voice("a PRIEST eats, round", 1, 1, MAX, 0, 11, 20, 10);
        voice("a CRITIC eats, round", 2, 1, MAX, 2, 30, 11, 10, 12);
        voice("a CRITIC looks as a DINER", 2, 0, 4, 5, 10);
        voice("a CHILD waits, the least int", 3, 2, MIN + 3, MIN, 40, 12);
        voice("a CHILD waits, from 0", 3, 2, 3, 0, 40, 12);
        voice("a CHILD tells", 3, 3, 4, -11, 13, 11, 10, 40, 12);
        voice("a MOURNER tells, round", 4, 3, MAX, MAX - 12, 50, 13, 11, 20, 10, 12, 20, 10);
        voice("a MOURNER looks as a PRIEST", 4, 0, 2, 9, 20, 10);
        voice("a COUPLE eats, round", 5, 1, MAX, 4, 60, 30, 11, 10, 12);
        voice("a COUPLE tells", 5, 3, 4, 15, 13, 60, 30, 11, 10, 12, 12);
        voice("a COOK waits, the least int", 6, 2, MIN + 3, MIN + 1, 70, 40, 12);
        voice("a COOK tells, the longest of all", 6, 3, MIN + 3, MAX, 71, 11, 10, 13, 11, 10, 70, 40, 12);
        voice("a COOK looks as a DINER", 6, 0, -1, 0, 10);
        test("29: an answer like an ERROR is none", () -> {
            LooksServed x = speaker(0);
            for (int k = 1; k <= 5; k++) due("voice", x.voice(0, 0, -1000000000 - k), -1000000000 - k);
            all("told", 0, x.told(1), x.told(2), x.told(3), x.told(4), x.told(5));
        });
        test("29: the eighth DINER's number is 7, m 0 and 9", () -> {
            LooksServed x = shammers(0, 0, 0, 0, 0, 0, 0, 0);
            row("m 0", of(7, 14, 0), x.voice(7, 0, 0), x.voice(7, 1, 0), x.voice(7, 2, 0));
            x.become(7, 9);
            row("m 9", of(7, 14, -9), x.voice(7, 0, 0), x.voice(7, 1, 0), x.voice(7, 2, 0));
            x.become(7, 69);
            due("waits ^ 7", x.voice(7, 2, 0), 9 ^ 7);
        });
        test("29: one that is GONE speaks, too", () -> {
            LooksServed x = speaker(6);
            x.change(1, 3, 1);
            row("voice", of(22, 9), x.voice(1, 3, 4), x.count(8));
        });
        test("30: the latest voice's alone, a shorter one behind a longer", () -> {
            LooksServed x = speaker(6);
            x.voice(1, 3, 1);
            row("first and last", of(71, 12, NONE), x.trace(0), x.trace(8), x.trace(9));
            x.voice(1, 0, 1);
            row("of one", of(10, NONE, NONE, 1), x.trace(0), x.trace(1), x.trace(8), x.count(8));
        });
        test("30: many voices don't fill it", () -> {
            LooksServed x = speaker(6);
            for (int i = 0; i < 50; i++) x.voice(1, 3, i);
            row("trace", of(9, 71, 12, NONE, NONE, NONE, NONE), x.count(8), x.trace(0), x.trace(8), x.trace(9),
                x.trace(39), x.trace(40), x.trace(41));
        });
        test("30: a refused voice leaves it", () -> {
            LooksServed x = speaker(6);
            x.voice(1, 2, 1);
            all("refused", BEYOND, x.voice(2, 0, 0), x.voice(1, 4, 0), x.voice(1, -1, 0), x.voice(-1, 0, 0));
            row("trace", of(70, 40, 12), trace(x));
        });
    }

    /** Whether number 0 of SHEET 0, of so many bits, is the FACE v when w was put. */
    private static int isFace(int bits, int w, int v) {
        LooksServed x = new LooksServed();
        write(x, 0, v >= 0 ? Integer.toString(v) : "0");
        x.diner(v >= 0 ? 0 : 30, v >= 0 ? 0 : -2 * v, 0);
        due("FACE", x.ofDiner(0, 6), v);
        x.sheet(0, bits, 1);
        x.put(0, 0, w);
        return x.judge(0) == -1 ? 1 : 0;
    }

    private static void sheets() {
        test("31: 0 numbers, 40 numbers", () -> {
            LooksServed x = new LooksServed();
            for (int bits : new int[] {8, 16, 32}) {
                row("none", of(1, BEYOND, 0), x.sheet(0, bits, 0), x.put(0, 0, 1), x.move(0, 0, 0, 0, 0));
                row("forty", of(1, 1, BEYOND), x.sheet(0, bits, 40), x.put(0, 39, 1), x.put(0, 40, 1));
            }
        });
        test("31: all 0, whatever stood there", () -> {
            LooksServed x = shammers(9, 9, 9);
            sheetOf(x, 3, 8, 5, 6, 7);
            x.sheet(3, 8, 3);
            row("shams", of(3, 0, 0, 0), x.shams(3), x.ofDiner(0, 3), x.ofDiner(1, 3), x.ofDiner(2, 3));
            sheetOf(x, 3, 32, 5, 6, 7);
            x.sheet(3, 32, 0);
            x.sheet(3, 32, 3);
            row("shams", of(3, 0, 0, 0), x.shams(3), x.ofDiner(0, 3), x.ofDiner(1, 3), x.ofDiner(2, 3));
        });
        test("31: bits 0: it is missing, n doesn't matter", () -> {
            for (int n : new int[] {MIN, -1, 0, 40, 41, MAX}) {
                LooksServed x = new LooksServed();
                x.sheet(1, 16, 4);
                row("sheet", of(1, NONE), x.sheet(1, 0, n), x.put(1, 0, 0));
                all("no ERROR but that", 1, x.told(2), 1 + x.told(1), 1 + x.told(3));
            }
        });
        test("31: n of -1 and of 41, for bits that there are and aren't", () -> {
            LooksServed x = new LooksServed();
            row("sheet", of(STATE, BEYOND, BEYOND, BEYOND, BEYOND), x.sheet(0, 8, -1), x.sheet(0, 8, 41),
                x.sheet(0, 9, -1), x.sheet(4, 8, -1), x.sheet(-1, 8, -1));
            row("told", of(4, 1), x.told(1), x.told(3));
        });
        test("32: the lowest 8 bits", () -> {
            row("FACE 5", of(1, 1, 1, 0, 1), isFace(8, 5, 5), isFace(8, 261, 5), isFace(8, -251, 5), isFace(8, 6, 5),
                isFace(8, MIN + 5, 5));
            row("FACE 0", of(1, 1, 0), isFace(8, 256, 0), isFace(8, MIN, 0), isFace(8, 255, 0));
            row("FACE -1", of(1, 1, 1), isFace(8, -1, -1), isFace(8, 255, -1), isFace(8, MAX, -1));
        });
        test("32: the lowest 16 bits", () -> {
            row("FACE 5", of(1, 0, 1, 1), isFace(16, 5, 5), isFace(16, 261, 5), isFace(16, 65541, 5),
                isFace(16, MIN + 5, 5));
            row("FACE -1", of(1, 1, 1, 0), isFace(16, -1, -1), isFace(16, 65535, -1), isFace(16, MAX, -1),
                isFace(16, 255, -1));
        });
        test("32: all 32 bits", () -> {
            row("FACE 5", of(1, 0, 0, 0), isFace(32, 5, 5), isFace(32, 261, 5), isFace(32, 65541, 5),
                isFace(32, MIN + 5, 5));
            row("FACE -1", of(1, 0, 0, 0), isFace(32, -1, -1), isFace(32, 65535, -1), isFace(32, MAX, -1),
                isFace(32, 255, -1));
        });
        test("32: no such SHEET, missing, no such number", () -> {
            LooksServed x = new LooksServed();
            x.sheet(0, 8, 2);
            row("put", of(BEYOND, BEYOND, NONE, NONE, BEYOND, BEYOND, 1, 1), x.put(4, 9, 0), x.put(-1, 9, 0),
                x.put(1, 9, 0), x.put(1, -1, 0), x.put(0, 2, 0), x.put(0, -1, 0), x.put(0, 1, 0), x.put(0, 0, 0));
        });
    }

    private static int[] numbers(LooksServed x, int sheet) {
        due("shams", x.shams(sheet), x.count(0));
        return ofAll(x, 3);
    }

    private static void moves() {
        test("33: upward over itself, as they all were", () -> {
            LooksServed x = shammers(0, 0, 0, 0, 0);
            sheetOf(x, 0, 16, 1, 2, 3, 4, 5);
            due("move", x.move(0, 0, 0, 1, 4), 4);
            row("numbers", of(1, 1, 2, 3, 4), numbers(x, 0));
        });
        test("33: downward over itself, as they all were", () -> {
            LooksServed x = shammers(0, 0, 0, 0, 0);
            sheetOf(x, 0, 32, 1, 2, 3, 4, 5);
            due("move", x.move(0, 1, 0, 0, 4), 4);
            row("numbers", of(2, 3, 4, 5, 5), numbers(x, 0));
        });
        test("33: to where they stand", () -> {
            LooksServed x = shammers(0, 0, 0);
            sheetOf(x, 0, 8, 1, 2, 3);
            due("move", x.move(0, 0, 0, 0, 3), 3);
            row("numbers", of(1, 2, 3), numbers(x, 0));
        });
        test("33: a whole row of forty to another", () -> {
            LooksServed x = shammers(0);
            x.sheet(0, 8, 40);
            x.put(0, 39, 7);
            x.sheet(1, 8, 40);
            due("move", x.move(0, 0, 1, 0, 40), 40);
            x.sheet(2, 8, 1);
            due("move", x.move(1, 39, 2, 0, 1), 1);
            row("the last", of(7), numbers(x, 2));
            row("one more", of(BEYOND, BEYOND, BEYOND), x.move(0, 0, 1, 0, 41), x.move(0, 1, 1, 0, 40),
                x.move(0, 0, 1, 1, 40));
        });
        test("33: the last number to the last place", () -> {
            LooksServed x = shammers(0, 0, 0);
            sheetOf(x, 0, 8, 1, 2, 3);
            sheetOf(x, 1, 8, 4, 5);
            row("move", of(1, BEYOND, BEYOND), x.move(1, 1, 0, 2, 1), x.move(1, 2, 0, 2, 1), x.move(1, 1, 0, 3, 1));
            row("numbers", of(1, 2, 5), numbers(x, 0));
        });
        test("33: nothing, up to the very ends", () -> {
            LooksServed x = shammers(0, 0);
            sheetOf(x, 0, 8, 1, 2);
            x.sheet(1, 8, 0);
            all("move", 0, x.move(0, 0, 1, 0, 0), x.move(0, 2, 1, 0, 0), x.move(1, 0, 0, 2, 0), x.move(1, 0, 1, 0, 0));
            all("beyond", BEYOND, x.move(0, 3, 1, 0, 0), x.move(1, 1, 0, 0, 0), x.move(0, 0, 1, 1, 0),
                x.move(1, 0, 0, 3, 0), x.move(1, 0, 0, 0, 1), x.move(0, 0, 1, 0, 1));
            row("numbers", of(1, 2), numbers(x, 0));
        });
        test("33: the other row's numbers stay but those that are written over", () -> {
            LooksServed x = shammers(0, 0, 0, 0);
            sheetOf(x, 0, 8, 1, 2, 3, 4);
            sheetOf(x, 1, 8, 9, 8);
            due("move", x.move(1, 0, 0, 1, 2), 2);
            row("numbers", of(1, 9, 8, 4), numbers(x, 0));
            sheetOf(x, 2, 8, 0, 0, 0, 0);
            x.move(1, 0, 2, 0, 2);
            row("the one that they came from", of(9, 8, 0, 0), numbers(x, 2));
        });
        test("33: sums that go round", () -> {
            LooksServed x = new LooksServed();
            x.sheet(0, 8, 3);
            all("move", BEYOND, x.move(0, 1, 0, 0, MAX), x.move(0, 0, 0, 1, MAX), x.move(0, MAX, 0, 0, 1),
                x.move(0, 0, 0, MAX, 1), x.move(0, MAX, 0, MAX, MAX), x.move(0, MIN, 0, 0, MIN),
                x.move(0, 0, 0, MIN, MIN), x.move(0, MIN, 0, MIN, 0), x.move(0, 3, 0, 3, MIN));
        });
    }

    private static void shamsAndJudge() {
        test("34: 0 and 9 are SHAMS, -1 and 10 aren't, and no ERROR", () -> {
            for (int bits : new int[] {8, 16, 32}) {
                LooksServed x = shammers(1, 1, 1);
                sheetOf(x, 0, bits, 0, 9, 10);
                due("shams", x.shams(0), 2);
                row("SHAMS", of(0, 9, 1), ofAll(x, 3));
                sheetOf(x, 0, bits, 2, -1, 2);
                due("shams", x.shams(0), 1);
                row("SHAMS", of(2, 9, 1), ofAll(x, 3));
                all("no ERROR", 0, x.told(1), x.told(2), x.told(3), x.told(4), x.told(5));
            }
        });
        test("34: the first is none", () -> {
            LooksServed x = shammers(4, 4);
            sheetOf(x, 0, 32, MIN, 1);
            row("shams", of(0, 4, 4), x.shams(0), x.ofDiner(0, 3), x.ofDiner(1, 3));
            sheetOf(x, 0, 32, MAX, 1);
            row("shams", of(0, 4, 4), x.shams(0), x.ofDiner(0, 3), x.ofDiner(1, 3));
        });
        test("34: as many numbers as DINERS, one more, one less, none", () -> {
            LooksServed x = shammers(1, 1);
            sheetOf(x, 0, 8, 2, 3);
            sheetOf(x, 1, 8, 4, 5, 6);
            sheetOf(x, 2, 8, 7);
            x.sheet(3, 8, 0);
            due("as many", x.shams(0), 2);
            row("SHAMS", of(2, 3), ofAll(x, 3));
            due("one more", x.shams(1), 2);
            row("SHAMS", of(4, 5), ofAll(x, 3));
            due("one less", x.shams(2), 1);
            row("SHAMS", of(7, 5), ofAll(x, 3));
            due("none", x.shams(3), 0);
            row("SHAMS", of(7, 5), ofAll(x, 3));
        });
        test("34: without DINERS, and a number that is none without its DINER", () -> {
            LooksServed x = new LooksServed();
            x.sheet(0, 8, 40);
            due("none", x.shams(0), 0);
            x.diner(0, 0, 5);
            sheetOf(x, 0, 8, 6, 10);
            due("one", x.shams(0), 1);
        });
        test("34: eight of forty", () -> {
            LooksServed x = shammers(1, 1, 1, 1, 1, 1, 1, 1);
            x.sheet(0, 8, 40);
            for (int i = 0; i < 8; i++) x.put(0, i, i + 1);
            due("shams", x.shams(0), 8);
            row("SHAMS", of(1, 2, 3, 4, 5, 6, 7, 8), ofAll(x, 3));
        });
        test("34: one that is GONE, too", () -> {
            LooksServed x = shammers(1, 1);
            x.change(0, 3, 1);
            sheetOf(x, 0, 8, 5, 6);
            row("shams", of(2, 5, 6), x.shams(0), x.ofDiner(0, 3), x.ofDiner(1, 3));
        });
        test("35: one lacks, one is too many, just as many", () -> {
            LooksServed x = shammers(1, 2);
            sheetOf(x, 0, 8, 1);
            sheetOf(x, 1, 8, 1, 2, 0);
            sheetOf(x, 2, 8, 1, 2);
            x.sheet(3, 8, 0);
            row("judge", of(1, 2, -1, 0), x.judge(0), x.judge(1), x.judge(2), x.judge(3));
        });
        test("35: the first of two that aren't so", () -> {
            LooksServed x = shammers(1, 2, 3);
            sheetOf(x, 0, 8, 1, 9, 9);
            sheetOf(x, 1, 8, 9, 2);
            sheetOf(x, 2, 8, 1, 9);
            row("judge", of(1, 0, 1), x.judge(0), x.judge(1), x.judge(2));
        });
        test("35: nobody and nothing; nobody and a number", () -> {
            LooksServed x = new LooksServed();
            x.sheet(0, 8, 0);
            x.sheet(1, 8, 1);
            x.sheet(2, 8, 40);
            row("judge", of(-1, 0, 0), x.judge(0), x.judge(1), x.judge(2));
        });
        test("35: eight, the last wrong; one too many", () -> {
            LooksServed x = shammers(1, 2, 3, 4, 5, 6, 7, 8);
            sheetOf(x, 0, 16, 1, 2, 3, 4, 5, 6, 7, 9);
            due("the last", x.judge(0), 7);
            x.put(0, 7, 8);
            due("all", x.judge(0), -1);
            sheetOf(x, 1, 16, 1, 2, 3, 4, 5, 6, 7, 8, 0);
            due("the ninth", x.judge(1), 8);
        });
        test("35: the least FACE and the greatest", () -> {
            for (int bits : new int[] {8, 16, 32}) {
                LooksServed x = new LooksServed();
                write(x, 0, "c");
                x.diner(30, 99, 0);
                x.diner(19, 0, 9);
                x.change(1, 2, 99);
                sheetOf(x, 0, bits, -49, 117);
                due("judge " + bits, x.judge(0), -1);
            }
        });
        test("35: FACES now, of the GONE, too", () -> {
            LooksServed x = shammers(1, 2);
            x.change(0, 3, 1);
            sheetOf(x, 0, 8, 1, 2);
            due("judge", x.judge(0), -1);
            x.change(0, 1, 3);
            due("judge", x.judge(0), 0);
        });
    }

    private static void images() {
        test("36: how often, which no restore takes back", () -> {
            LooksServed x = new LooksServed();
            row("image", of(1, 2, 0, 3, 0, 4), x.image(), x.image(), x.restore(), x.image(), x.restore(), x.image());
        });
        test("36: in place of the one ahead", () -> {
            LooksServed x = shammers(0);
            x.image();
            x.steps(3);
            x.image();
            x.steps(4);
            row("restore", of(3, 3, 25), x.restore(), x.count(2), x.count(3));
        });
        test("37: it stays, however often and whatever goes on behind", () -> {
            LooksServed x = shammers(0, 0);
            x.image();
            for (int i = 0; i < 3; i++) {
                x.steps(10);
                x.change(0, 1, 9);
                x.fills(0, 30);
                row("restore", of(0, 80, 0, 5), x.restore(), x.count(3), x.ofDiner(0, 3), x.filling(0));
            }
        });
        test("37: of nothing: no DINERS, no TEXTS, nothing fed or told", () -> {
            LooksServed x = new LooksServed();
            x.image();
            for (int i = 0; i < 8; i++) x.diner(69, 99, 9);
            for (int i = 0; i < 8; i++) x.change(i, 2, 99);
            x.change(0, 3, 1);
            write(x, 0, "7");
            write(x, 1, "1");
            feed(x, "1");
            x.tell(1);
            x.waiters(4);
            x.seed(9);
            due("restore", x.restore(), 0);
            for (int what = 0; what < 10; what++) due("count " + what, x.count(what), what == 1 || what == 9 ? 1 : 0);
            row("laws", of(12, 0), x.law(0, 0, 3, 0), x.law(1, 1, 1, 1));
            row("a new one", of(0, 0), x.diner(0, 5, 5), x.ofDiner(0, 0));
            row("is new", of(0, 5, 5, 0, 0, 14), x.ofDiner(0, 1), x.ofDiner(0, 2), x.ofDiner(0, 3), x.ofDiner(0, 4),
                x.ofDiner(0, 5), x.ofDiner(0, 6));
        });
        test("37: of all that is full", () -> {
            LooksServed x = Restaurants.full();
            x.check();
            x.text(0);
            due("restore", x.restore(), 0);
            row("full", of(8, 50, 20, FULL, FULL, FULL), x.count(0), x.count(6), x.count(7), x.diner(0, 0, 0),
                x.feed(0, 1), x.tell(0));
        });
        test("37: THE TAPE's bytes and the numbers that wait, though others came since", () -> {
            LooksServed x = shammers(0);
            feed(x, "23");
            x.tell(35);
            x.tell(30);
            x.image();
            x.text(0);
            x.check();
            feed(x, "4567");
            for (int i = 0; i < 20; i++) x.tell(7);
            due("restore", x.restore(), 0);
            row("those", of(2, 2, 0, 1, 23), x.count(6), x.count(7), x.check(), x.text(0), x.law(0, 0, 0, 0));
        });
        test("37: KINDS and m, HUNGER, SHAM, HAD, GONE of each", () -> {
            LooksServed x = Restaurants.full();
            for (int i = 0; i < 8; i += 2) x.change(i, 3, 1);
            x.image();
            int[][] were = new int[6][];
            for (int what = 0; what < 6; what++) were[what] = ofAll(x, what);
            for (int i = 0; i < 8; i++) {
                x.become(i, 69 - 10 * Math.min(i, 6) - i);
                x.change(i, 0, 5);
                x.change(i, 1, 9 - i);
                x.change(i, 2, 50 + i);
                x.change(i, 3, i % 2);
            }
            x.restore();
            for (int what = 0; what < 6; what++) row("what " + what, were[what], ofAll(x, what));
        });
        test("37: at STEP 9999", () -> {
            LooksServed x = Restaurants.late();
            row("restore", of(9999, STATE, 9999), x.restore(), x.steps(1), x.count(2));
        });
        test("37: a TEXT of behind the IMAGE doesn't come into it", () -> {
            LooksServed x = new LooksServed();
            write(x, 0, "1+2+3");
            x.image();
            write(x, 0, "9");
            due("behind", x.law(0, 0, 0, 0), 9);
            x.restore();
            due("ahead", x.law(0, 0, 0, 0), 6);
        });
        test("37: SHEETS, THE TRACE and what told() tells stay", () -> {
            LooksServed x = speaker(6);
            sheetOf(x, 0, 8, 1);
            x.voice(1, 3, 1);
            x.image();
            sheetOf(x, 0, 16, 2, 3);
            x.sheet(1, 8, 1);
            x.voice(1, 2, 1);
            x.fills(8, 0);
            x.rank(9);
            x.trace(9);
            x.restore();
            row("told", of(2, 1), x.told(1), x.told(2));
            row("trace", of(70, 40, 12), trace(x));
            row("sheets", of(2, 2, 3, 1), x.shams(0), x.ofDiner(0, 3), x.ofDiner(1, 3), x.put(1, 0, 1));
        });
    }

    private static void numbersThatWait() {
        test("38: 20 wait, the 21st is FULL", () -> {
            LooksServed x = new LooksServed();
            for (int i = 1; i <= 20; i++) due("tell", x.tell(0), i);
            row("tell", of(FULL, 20, 0, 0, 1), x.tell(0), x.count(7), x.check(), x.count(7), x.tell(0));
        });
        test("38: any number, least and greatest", () -> {
            LooksServed x = new LooksServed();
            row("tell", of(1, 2, 3, 4), x.tell(MIN), x.tell(MAX), x.tell(BEYOND), x.tell(0));
        });
        test("39: nothing waits", () -> {
            LooksServed x = shammers(0);
            row("check", of(0, 0), x.check(), x.check());
        });
        test("39: place 0 is told as 1, place 19 as 20", () -> {
            for (int wrong = 0; wrong < 20; wrong++) {
                LooksServed x = shammers(9, 0);
                for (int i = 1; i <= 20; i++) x.tell(Math.max(0, 40 - 5 * i) + 40 + i + (i - 1 == wrong ? 1 : 0));
                row("check", of(1 + wrong, 0, 0), x.check(), x.count(7), x.check());
            }
        });
        test("39: the first of two that aren't so", () -> {
            LooksServed x = shammers(0);
            x.tell(35);
            x.tell(31);
            x.tell(26);
            due("check", x.check(), 2);
        });
        test("39: all twenty are so", () -> {
            LooksServed x = shammers(9, 0);
            for (int i = 1; i <= 20; i++) x.tell(Math.max(0, 40 - 5 * i) + 40 + i);
            row("check", of(0, 0, 0), x.check(), x.count(7), x.count(2));
        });
        test("39: without DINERS", () -> {
            LooksServed x = new LooksServed();
            x.tell(0);
            x.tell(0);
            due("zeros", x.check(), 0);
            x.tell(0);
            x.tell(1);
            due("a one", x.check(), 2);
        });
        test("39: behind STEP 9999", () -> {
            LooksServed x = Restaurants.atStep(9999);
            x.diner(0, 40, 0);
            x.tell(35);
            x.tell(30);
            row("check", of(0, 9999, 40), x.check(), x.count(2), x.count(3));
        });
        test("39: HUNGER of the GONE, too", () -> {
            LooksServed x = shammers(0, 0);
            x.change(1, 3, 1);
            x.tell(75);
            due("check", x.check(), 0);
        });
    }

    private static void countsAndTold() {
        test("40: the most of each", () -> {
            LooksServed x = Restaurants.full();
            for (int i = 0; i < 8; i++) {
                x.change(i, 0, 99);
                x.change(i, 2, 99);
                x.change(i, 3, 1);
            }
            row("count", of(8, 4, 0, 792, 792, 8, 50, 20, 9), x.count(0), x.count(1), x.count(2), x.count(3),
                x.count(4), x.count(5), x.count(6), x.count(7), x.count(8));
        });
        test("40: STEP 9999", () -> due("count", Restaurants.late().count(2), 9999));
        test("40: just beyond 0 and 9", () -> {
            LooksServed x = new LooksServed();
            row("count", of(BEYOND, BEYOND, 2), x.count(-1), x.count(10), x.told(1));
        });
        test("41: each ERROR once, none for the others", () -> {
            LooksServed x = Restaurants.late();
            int beyond = x.told(1);
            row("before", of(0, 0, 0, 0, 0), beyond, x.told(2), x.told(3), x.told(4), x.told(5));
            x.steps(1);
            x.as(0, 1);
            x.restore();
            x.trace(0);
            x.waiters(5);
            for (int i = 0; i < 19; i++) x.tell(0);
            row("after", of(1, 1, 1, 1, 1), x.told(1), x.told(2), x.told(3), x.told(4), x.told(5));
        });
        test("41: another k is counted, too", () -> {
            LooksServed x = new LooksServed();
            row("told", of(0, BEYOND, 1, BEYOND, 2, BEYOND, 3), x.told(1), x.told(0), x.told(1), x.told(6), x.told(1),
                x.told(-1), x.told(1));
            all("the others", 0, x.told(2), x.told(3), x.told(4), x.told(5));
        });
        test("41: as many as 500", () -> {
            LooksServed x = new LooksServed();
            for (int i = 0; i < 500; i++) x.count(10);
            due("told", x.told(1), 500);
        });
    }

    public static void main(String[] args) {
        draws();
        voices();
        sheets();
        moves();
        shamsAndJudge();
        images();
        numbersThatWait();
        countsAndTold();
        finish("RestEdgeTest");
    }
}
