/** Promises 1 to 9 and 13 to 15 at their edges: courses, waiters, diners, FACES, what a STEP does. */
public final class TableEdgeTest extends Checks {
    /** The FACE of a sole DINER; looks: the TEXT of LOOKS, or null for none. */
    private static int face(String looks, int km, int hunger, int sham, int had) {
        LooksServed x = new LooksServed();
        if (looks != null) due("text", write(x, 0, looks), 1);
        x.diner(km, hunger, sham);
        x.change(0, 2, had);
        return x.ofDiner(0, 6);
    }

    /** HUNGER of one that isn't served, behind a STEP. */
    private static int grown(int km, int hunger) {
        LooksServed x = shammers(9);
        x.diner(km, hunger, 0);
        x.steps(1);
        due("HAD", x.ofDiner(1, 4), 0);
        return x.ofDiner(1, 2);
    }

    /** HUNGER of a sole DINER, behind a STEP with a COURSE that FILLS so much. */
    private static int filled(int hunger, int fill) {
        LooksServed x = shammers(0);
        x.change(0, 0, hunger);
        x.fills(0, fill);
        return x.steps(1);
    }

    private static LooksServed eight(int... shams) {
        LooksServed x = shammers(shams);
        due("eight", x.count(0), 8);
        return x;
    }

    private static void atFirst() {
        test("1: no DINERS, one WAITER, STEP 0, nothing waits, z is 1", () -> {
            LooksServed x = new LooksServed();
            for (int what = 0; what < 10; what++) due("count " + what, x.count(what), what == 1 || what == 9 ? 1 : 0);
        });
        test("1: each COURSE FILLS 5 at first", () -> {
            LooksServed x = new LooksServed();
            for (int course = 0; course < 8; course++) due("filling " + course, x.filling(course), 5);
        });
        test("1: each SHEET is missing, there is no IMAGE and no TRACE", () -> {
            LooksServed x = new LooksServed();
            all("missing", NONE, x.shams(0), x.judge(1), x.whose(2, 1), x.put(3, 0, 0), x.restore(), x.trace(0));
        });
        test("1: told() tells 0 of each ERROR", () -> {
            LooksServed x = new LooksServed();
            all("told", 0, x.told(1), x.told(2), x.told(3), x.told(4), x.told(5));
        });
        test("1: objects are apart", () -> {
            LooksServed x = new LooksServed();
            LooksServed y = new LooksServed();
            x.fills(0, 9);
            x.diner(0, 1, 1);
            x.feed(0, 1);
            x.tell(1);
            x.sheet(0, 8, 1);
            x.image();
            x.told(9);
            row("the other", of(5, 0, 0, 0, 0), y.filling(0), y.count(0), y.count(6), y.count(7), y.told(1));
            all("the other", NONE, y.shams(0), y.restore());
        });
    }

    private static void coursesAndWaiters() {
        test("2: FILLS 0 and 30 are kept at both ends of the row", () -> {
            LooksServed x = new LooksServed();
            row("what it was", of(5, 0, 30, 5, 30, 0), x.fills(0, 0), x.fills(0, 30), x.fills(0, 1), x.fills(7, 30),
                x.fills(7, 0), x.fills(7, 2));
        });
        test("2: the others stay", () -> {
            LooksServed x = new LooksServed();
            x.fills(3, 30);
            row("filling", of(5, 5, 5, 30, 5, 5, 5, 5), x.filling(0), x.filling(1), x.filling(2), x.filling(3),
                x.filling(4), x.filling(5), x.filling(6), x.filling(7));
        });
        test("3: COURSES 0 and 7 are told apart", () -> {
            LooksServed x = new LooksServed();
            x.fills(0, 0);
            x.fills(7, 30);
            row("filling", of(0, 30), x.filling(0), x.filling(7));
        });
        test("4: WAITERS 1 and 4, what they were", () -> {
            LooksServed x = new LooksServed();
            row("waiters", of(1, 1, 4, 4), x.waiters(1), x.waiters(4), x.waiters(4), x.waiters(1));
        });
        test("4: one WAITER serves one, four serve four", () -> {
            LooksServed x = eight(0, 1, 2, 3, 4, 5, 6, 7);
            due("one", x.next(), 0b10000000);
            x.waiters(4);
            due("four", x.next(), 0b11110000);
        });
    }

    private static void diners() {
        test("5: least and greatest KIND and m", () -> {
            LooksServed x = new LooksServed();
            int[] kms = {0, 9, 10, 19, 59, 60, 69};
            for (int i = 0; i < kms.length; i++) due("diner " + kms[i], x.diner(kms[i], 5, 5), i);
            row("KINDS", of(0, 0, 1, 1, 5, 6, 6), ofAll(x, 0));
            row("m", of(0, 9, 0, 9, 9, 0, 9), ofAll(x, 1));
        });
        test("5: HUNGER 0 and 99, SHAM 0 and 9", () -> {
            LooksServed x = new LooksServed();
            row("numbers", of(0, 1), x.diner(0, 0, 9), x.diner(0, 99, 0));
            row("HUNGER", of(0, 99), ofAll(x, 2));
            row("SHAMS", of(9, 0), ofAll(x, 3));
        });
        test("5: the eighth is number 7, a ninth is FULL", () -> {
            LooksServed x = new LooksServed();
            for (int i = 0; i < 7; i++) x.diner(i, i, i);
            row("eighth and ninth", of(7, FULL), x.diner(48, 77, 7), x.diner(0, 0, 0));
            row("the eighth", of(4, 8, 77, 7, 0, 0), x.ofDiner(7, 0), x.ofDiner(7, 1), x.ofDiner(7, 2),
                x.ofDiner(7, 3), x.ofDiner(7, 4), x.ofDiner(7, 5));
        });
        test("5: HAD is 0 at first, and nobody GONE, at whatever STEP one comes", () -> {
            LooksServed x = shammers(0);
            x.steps(9);
            x.diner(0, 1, 1);
            row("HAD", of(9, 0), ofAll(x, 4));
            row("GONE", of(0, 0), ofAll(x, 5));
        });
        test("7: each to its least and greatest, what it was", () -> {
            LooksServed x = shammers(3);
            row("HUNGER", of(40, 99, 0), x.change(0, 0, 99), x.change(0, 0, 0), x.change(0, 0, 1));
            row("SHAM", of(3, 9, 0), x.change(0, 1, 9), x.change(0, 1, 0), x.change(0, 1, 1));
            row("HAD", of(0, 99, 0), x.change(0, 2, 99), x.change(0, 2, 0), x.change(0, 2, 1));
            row("GONE", of(0, 1, 1, 0), x.change(0, 3, 1), x.change(0, 3, 1), x.change(0, 3, 0), x.change(0, 3, 0));
        });
        test("7: one that was GONE and isn't is served again", () -> {
            LooksServed x = shammers(9, 0);
            x.change(0, 3, 1);
            due("without it", x.next(), 2);
            x.change(0, 3, 0);
            due("with it", x.next(), 1);
        });
        test("8: to the least and the greatest, the KIND that it was", () -> {
            LooksServed x = shammers(3);
            row("become", of(0, 6, 6, 0), x.become(0, 69), x.become(0, 60), x.become(0, 9), x.become(0, 0));
            row("KIND and m", of(0, 0), x.ofDiner(0, 0), x.ofDiner(0, 1));
        });
        test("8: HUNGER, SHAM, HAD and GONE stay", () -> {
            LooksServed x = shammers(9);
            x.change(0, 0, 99);
            x.change(0, 2, 99);
            x.change(0, 3, 1);
            x.become(0, 69);
            row("left", of(99, 9, 99, 1), x.ofDiner(0, 2), x.ofDiner(0, 3), x.ofDiner(0, 4), x.ofDiner(0, 5));
        });
        for (int kind = 0; kind < 7; kind++) {
            int its = kind;
            test("9: one of KIND " + its + " is of its own KIND, and a DINER", () -> {
                LooksServed x = new LooksServed();
                x.diner(its * 10 + 9, 0, 0);
                row("as", of(9, 9), x.as(0, its), x.as(0, 0));
            });
        }
        test("9: a MOURNER is a PRIEST, a COUPLE a CRITIC, a COOK a CHILD, and none of the others", () -> {
            LooksServed x = new LooksServed();
            for (int kind = 4; kind < 7; kind++) x.diner(kind * 10, 0, 0);
            row("MOURNER", of(0, KIND, KIND, 0, KIND, KIND), x.as(0, 1), x.as(0, 2), x.as(0, 3), x.as(0, 4),
                x.as(0, 5), x.as(0, 6));
            row("COUPLE", of(KIND, 0, KIND, KIND, 0, KIND), x.as(1, 1), x.as(1, 2), x.as(1, 3), x.as(1, 4),
                x.as(1, 5), x.as(1, 6));
            row("COOK", of(KIND, KIND, 0, KIND, KIND, 0), x.as(2, 1), x.as(2, 2), x.as(2, 3), x.as(2, 4),
                x.as(2, 5), x.as(2, 6));
        });
        test("9: no KIND stands under one beside it, nor above one under it", () -> {
            LooksServed x = new LooksServed();
            for (int kind = 0; kind < 4; kind++) x.diner(kind * 10, 0, 0);
            all("a DINER", KIND, x.as(0, 1), x.as(0, 2), x.as(0, 3), x.as(0, 4), x.as(0, 5), x.as(0, 6));
            all("a PRIEST", KIND, x.as(1, 2), x.as(1, 3), x.as(1, 4), x.as(1, 5), x.as(1, 6));
            all("a CRITIC", KIND, x.as(2, 1), x.as(2, 3), x.as(2, 4), x.as(2, 5), x.as(2, 6));
            all("a CHILD", KIND, x.as(3, 1), x.as(3, 2), x.as(3, 4), x.as(3, 5), x.as(3, 6));
        });
    }

    private static void faces() {
        test("6: a DINER's FACE, least and greatest", () ->
            row("faces", of(0, 108), face("0-1", 9, 99, 0, 99), face("100", 0, 0, 9, 0)));
        test("6: a PRIEST's FACE, least and greatest", () ->
            row("faces", of(0, 117), face("0", 10, 99, 0, 0), face("99", 19, 0, 9, 0)));
        test("6: a CRITIC's half is cut, of v alone", () -> {
            row("of v", of(0, 0, 1, 1, 49, 49), face("0", 20, 0, 0, 0), face("1", 20, 0, 0, 0),
                face("2", 20, 0, 0, 0), face("3", 20, 0, 0, 0), face("98", 20, 0, 0, 0), face("99", 20, 0, 0, 0));
            row("and SHAM", of(9, 58, 1), face("1", 29, 0, 9, 0), face("99", 29, 0, 9, 0), face("1", 20, 0, 1, 0));
        });
        test("6: a CHILD's half is cut, of HUNGER", () ->
            row("faces", of(60, 60, 59, 59, 11, 11), face("60", 30, 0, 0, 0), face("60", 30, 1, 0, 0),
                face("60", 30, 2, 0, 0), face("60", 30, 3, 0, 0), face("60", 30, 98, 0, 0), face("60", 39, 99, 0, 0)));
        test("6: a CHILD's FACE, least and greatest", () ->
            row("faces", of(-49, 108), face("0", 30, 99, 0, 0), face("99", 39, 0, 9, 0)));
        test("6: a MOURNER's FACE, least and greatest", () ->
            row("faces", of(-20, 97), face("0", 40, 99, 0, 0), face("99", 49, 0, 9, 0)));
        test("6: a COUPLE's 9 from HAD 1 on, none at 0", () ->
            row("faces", of(3, 12, 12), face("1", 59, 0, 3, 0), face("1", 59, 0, 3, 1), face("1", 59, 0, 3, 99)));
        test("6: a COUPLE's FACE, greatest", () -> due("face", face("99", 50, 0, 9, 1), 67));
        test("6: a CRITIC has no 9", () -> due("face", face("1", 29, 0, 3, 1), 3));
        test("6: a COOK's SHAM is twice, not thrice", () ->
            row("faces", of(0, 2, 18), face("0", 60, 0, 0, 0), face("0", 60, 0, 1, 0), face("0", 60, 1, 9, 0)));
        test("6: a COOK's FACE, least and greatest", () ->
            row("faces", of(-49, 117, -31), face("0", 69, 99, 0, 0), face("99", 69, 0, 9, 0), face("0", 60, 99, 9, 0)));
        test("6: m is nothing to DINER, CRITIC, CHILD, COUPLE, COOK", () -> {
            for (int kind : new int[] {0, 2, 3, 5, 6}) {
                due("KIND " + kind, face("9", kind * 10 + 9, 8, 1, 1), face("9", kind * 10, 8, 1, 1));
            }
        });
        test("6: one that is GONE has a FACE, too", () -> {
            LooksServed x = shammers(7);
            x.change(0, 3, 1);
            due("face", x.ofDiner(0, 6), 7);
        });
        test("6: without a TEXT, HUNGER's ninth is cut", () ->
            row("faces", of(9, 9, 8, 8, 7, 1, 0), face(null, 0, 0, 0, 0), face(null, 0, 8, 0, 0),
                face(null, 0, 9, 0, 0), face(null, 0, 17, 0, 0), face(null, 0, 18, 0, 0), face(null, 0, 80, 0, 0),
                face(null, 0, 81, 0, 0)));
        test("6: without a TEXT, too, v is held within 0 to 99", () ->
            row("faces", of(0, 0, 0, 99, 99, 99, 98, 97), face(null, 0, 89, 0, 0), face(null, 0, 90, 0, 0),
                face(null, 0, 99, 0, 0), face(null, 0, 0, 0, 90), face(null, 0, 0, 0, 91), face(null, 0, 0, 0, 99),
                face(null, 0, 90, 0, 99), face(null, 0, 99, 0, 99)));
        test("6: s is the rest of STEP by 16", () -> {
            LooksServed x = new LooksServed();
            write(x, 0, "s");
            x.diner(10, 0, 0);
            for (int step = 0; step < 34; step++) {
                due("face at " + step, x.ofDiner(0, 6), step % 16);
                x.steps(1);
            }
        });
        test("6: s at STEP 9999 is 15", () -> {
            LooksServed x = Restaurants.atStep(9998);
            write(x, 0, "s");
            x.diner(0, 0, 0);
            due("at 9998", x.ofDiner(0, 6), 14);
            x.steps(1);
            due("at 9999", x.ofDiner(0, 6), 15);
        });
    }

    private static void ranking() {
        test("13: of like FACES the least number", () -> {
            LooksServed x = eight(5, 5, 5, 5, 5, 5, 5, 5);
            due("one", x.next(), 1);
            x.waiters(2);
            due("two", x.next(), 3);
            x.waiters(4);
            due("four", x.next(), 15);
            x.steps(1);
            row("HAD", of(1, 1, 1, 1, 0, 0, 0, 0), ofAll(x, 4));
        });
        test("13: the last place goes to the least number of like ones", () -> {
            LooksServed x = eight(0, 9, 5, 5, 9, 5, 9, 0);
            x.waiters(4);
            due("next", x.next(), 0b01010110);
        });
        test("13: as many WAITERS as DINERS, one more, one less", () -> {
            LooksServed x = shammers(0, 1, 2);
            int[] sets = {0, 0b100, 0b110, 0b111, 0b111};
            for (int w = 1; w <= 4; w++) {
                x.waiters(w);
                due("with " + w, x.next(), sets[w]);
            }
        });
        test("13: a FACE below 0 is served, too", () -> {
            LooksServed x = shammers();
            x.diner(30, 99, 0);
            row("next", of(-49, 1), x.ofDiner(0, 6), x.next());
            x.diner(40, 0, 0);
            row("-20 stands ahead of -49", of(-20, 2), x.ofDiner(1, 6), x.next());
        });
        test("13: the GONE leave their place to the next", () -> {
            LooksServed x = shammers(9, 8, 7);
            x.waiters(2);
            x.change(0, 3, 1);
            due("next", x.next(), 0b110);
            x.change(1, 3, 1);
            due("next", x.next(), 0b100);
        });
        test("13: all are GONE: nobody is served or grows hungry, STEP goes on", () -> {
            LooksServed x = shammers(1, 2);
            x.change(0, 3, 1);
            x.change(1, 3, 1);
            row("steps", of(0, 80, 0, 60), x.next(), x.steps(60), x.count(4), x.count(2));
        });
        test("13: without DINERS STEP goes on", () -> {
            LooksServed x = new LooksServed();
            row("steps", of(0, 1, 0, 61), x.steps(1), x.count(2), x.steps(60), x.count(2));
        });
        test("13: FACES are those of before the STEP, for all alike", () -> {
            LooksServed x = new LooksServed();
            write(x, 0, "h");
            x.diner(0, 50, 0);
            x.diner(0, 49, 0);
            // 45 and 50 behind it: only in the next STEP the other one stands ahead.
            x.steps(1);
            row("HAD", of(1, 0), ofAll(x, 4));
            due("next", x.next(), 2);
        });
    }

    private static void meals() {
        test("13: HUNGER is 0 at least", () ->
            row("by 5", of(1, 0, 0, 0), filled(6, 5), filled(5, 5), filled(4, 5), filled(0, 5)));
        test("13: a COURSE that FILLS 30", () ->
            row("by 30", of(69, 1, 0, 0, 0), filled(99, 30), filled(31, 30), filled(30, 30), filled(29, 30),
                filled(0, 30)));
        test("13: a COURSE that FILLS 0", () ->
            row("by 0", of(99, 1, 0), filled(99, 0), filled(1, 0), filled(0, 0)));
        test("13: the COURSE is the rest of HAD by 8", () -> {
            for (int had : new int[] {0, 1, 6, 7, 8, 9, 15, 16, 63, 64, 95, 96, 97, 98, 99}) {
                LooksServed x = shammers(0);
                for (int course = 0; course < 8; course++) x.fills(course, course + 1);
                x.change(0, 2, had);
                due("HAD " + had, x.steps(1), 40 - 1 - had % 8);
            }
        });
        test("13: HAD is held at 99", () -> {
            LooksServed x = shammers(0);
            x.change(0, 2, 97);
            int[] hads = {98, 99, 99, 99};
            for (int had : hads) {
                x.steps(1);
                due("HAD", x.ofDiner(0, 4), had);
            }
            due("still fed", x.ofDiner(0, 2), 20);
        });
        test("13: one that has HAD 99 keeps its place", () -> {
            LooksServed x = shammers(9, 0);
            x.change(0, 2, 99);
            x.steps(3);
            row("HAD", of(99, 0), ofAll(x, 4));
            row("HUNGER", of(25, 43), hungers(x));
        });
    }

    private static void growing() {
        test("13: a DINER grows by 1", () -> row("grown", of(51, 51), grown(0, 50), grown(9, 50)));
        test("13: a PRIEST and a MOURNER don't grow", () ->
            row("grown", of(50, 50, 0, 99), grown(19, 50), grown(49, 50), grown(10, 0), grown(40, 99)));
        test("13: a CRITIC and a COUPLE grow by 2", () ->
            row("grown", of(52, 52), grown(29, 50), grown(59, 50)));
        test("13: a CHILD and a COOK grow by 1, and the rest of m by 3", () -> {
            int[] by = {1, 2, 3, 1, 2, 3, 1, 2, 3, 1};
            for (int m = 0; m < 10; m++) {
                row("m " + m, of(50 + by[m], 50 + by[m]), grown(30 + m, 50), grown(60 + m, 50));
            }
        });
        test("13: HUNGER is held at 99, grown by 1", () ->
            row("grown", of(98, 99, 99), grown(0, 97), grown(0, 98), grown(0, 99)));
        test("13: HUNGER is held at 99, grown by 2", () ->
            row("grown", of(98, 99, 99, 99), grown(20, 96), grown(20, 97), grown(20, 98), grown(20, 99)));
        test("13: HUNGER is held at 99, grown by 3", () ->
            row("grown", of(98, 99, 99, 99, 99), grown(32, 95), grown(32, 96), grown(32, 97), grown(32, 98),
                grown(32, 99)));
        test("13: one that is served doesn't grow", () -> due("filled", filled(40, 0), 40));
    }

    private static int goneBehindOne(String bill, int hunger) {
        LooksServed x = shammers(9, 0);
        x.change(1, 0, hunger);
        due("text", write(x, 1, bill), 1);
        x.steps(1);
        return x.ofDiner(1, 5);
    }

    private static void bills() {
        test("13: GONE if the BILL gives other than 0, held within 0 to 1", () ->
            row("gone", of(0, 0, 1, 1, 1), goneBehindOne("0-1", 40), goneBehindOne("0", 40), goneBehindOne("1", 40),
                goneBehindOne("2", 40), goneBehindOne("9999", 40)));
        test("13: the BILL sees HUNGER behind its growing", () ->
            row("gone", of(0, 1), goneBehindOne("h>50", 49), goneBehindOne("h>50", 50)));
        test("13: the BILL sees HUNGER as it is held", () ->
            row("gone", of(1, 0), goneBehindOne("h=99", 99), goneBehindOne("h>99", 99)));
        test("13: the BILL sees HUNGER and HAD behind a COURSE", () -> {
            LooksServed x = shammers(9);
            write(x, 1, "(h=35)&(c=1)");
            x.steps(1);
            row("gone at once", of(1, 35, 1), x.ofDiner(0, 5), x.ofDiner(0, 2), x.ofDiner(0, 4));
        });
        test("13: the BILL's f is the FACE then, a COUPLE's first 9 among it", () -> {
            LooksServed x = shammers();
            x.diner(50, 40, 2);
            write(x, 1, "f=11");
            due("ahead", x.ofDiner(0, 6), 2);
            x.steps(1);
            due("gone", x.ofDiner(0, 5), 1);
        });
        test("13: the BILL's f is of the STEP that goes on", () -> {
            LooksServed x = new LooksServed();
            write(x, 0, "s");
            x.diner(0, 40, 0);
            write(x, 1, "f=15");
            x.steps(15);
            due("s was 14", x.ofDiner(0, 5), 0);
            x.steps(1);
            due("s was 15", x.ofDiner(0, 5), 1);
        });
        test("13: one that is GONE stays so, with HUNGER and HAD as they were", () -> {
            LooksServed x = shammers(0, 9);
            write(x, 1, "h=41");
            x.steps(1);
            x.steps(60);
            row("gone", of(1, 41, 0), x.ofDiner(0, 5), x.ofDiner(0, 2), x.ofDiner(0, 4));
        });
        test("13: all eight are GONE in one STEP", () -> {
            LooksServed x = eight(1, 2, 3, 4, 5, 6, 7, 8);
            write(x, 1, "1");
            x.steps(60);
            row("gone", of(8, 1, 60, 7 * 41 + 35), x.count(5), x.count(4), x.count(2), x.count(3));
        });
        test("13: one that is GONE isn't asked again, even to come back", () -> {
            LooksServed x = shammers(0);
            x.change(0, 3, 1);
            write(x, 1, "0");
            x.steps(1);
            due("gone", x.ofDiner(0, 5), 1);
        });
    }

    private static void limits() {
        test("13: 1 and 60 STEPS", () -> {
            LooksServed x = shammers(0);
            row("steps", of(35, 1, 0, 61), x.steps(1), x.count(2), x.steps(60), x.count(2));
        });
        test("13: to STEP 9999, not beyond", () -> {
            LooksServed x = Restaurants.atStep(9939);
            row("steps", of(0, 9999, STATE), x.steps(60), x.count(2), x.steps(1));
            LooksServed y = Restaurants.atStep(9940);
            row("steps", of(STATE, 9940, 0, 9999), y.steps(60), y.count(2), y.steps(59), y.count(2));
            LooksServed z = Restaurants.atStep(9998);
            row("steps", of(STATE, 0, 9999, STATE), z.steps(2), z.steps(1), z.count(2), z.steps(1));
        });
        test("14: 1 and 40 STEPS by draws", () -> {
            LooksServed x = shammers(0);
            row("loose", of(35, 1, 0, 41), x.loose(1), x.count(2), x.loose(40), x.count(2));
        });
        test("14: to STEP 9999 by draws, not beyond", () -> {
            LooksServed x = Restaurants.atStep(9959);
            row("loose", of(0, 9999, STATE), x.loose(40), x.count(2), x.loose(1));
            LooksServed y = Restaurants.atStep(9960);
            row("loose", of(STATE, 9960, 1, 0, 9999), y.loose(40), y.count(2), y.count(9), y.loose(39), y.count(2));
            LooksServed z = Restaurants.atStep(9998);
            row("loose", of(STATE, 0, 9999), z.loose(2), z.loose(1), z.count(2));
        });
        test("13: HUNGER of all together counts the GONE", () -> {
            LooksServed x = shammers(0, 0);
            x.change(1, 3, 1);
            due("steps", x.steps(1), 35 + 40);
        });
        test("13: eight of HUNGER 99", () -> {
            LooksServed x = eight(0, 0, 0, 0, 0, 0, 0, 0);
            for (int i = 0; i < 8; i++) {
                x.change(i, 0, 99);
                x.fills(i, 0);
            }
            due("steps", x.steps(60), 8 * 99);
        });
    }

    public static void main(String[] args) {
        atFirst();
        coursesAndWaiters();
        diners();
        faces();
        ranking();
        meals();
        growing();
        bills();
        limits();
        finish("TableEdgeTest");
    }
}
