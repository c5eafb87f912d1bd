/** Promises 15 to 27 at their edges: what would be, which is only thought. */
public final class ThoughtEdgeTest extends Checks {
    private interface Question {
        int on(LooksServed x);
    }

    private static LooksServed eight(int sham) {
        return shammers(sham, sham, sham, sham, sham, sham, sham, sham);
    }

    private static void allGone(LooksServed x) {
        for (int diner = 0; diner < x.count(0); diner++) x.change(diner, 3, 1);
    }

    private static void onlyThought(String name, Question question) {
        Restaurants.Recipe[] recipes = {Restaurants::laden, Restaurants::full, Restaurants::late};
        String[] places = {"laden", "full", "at STEP 9999"};
        for (int i = 0; i < recipes.length; i++) {
            Restaurants.Recipe recipe = recipes[i];
            test(name + " changes nothing, " + places[i], () -> {
                LooksServed x = recipe.make();
                int[] tolds = Restaurants.tolds(x);
                int answer = question.on(x);
                due("the same again", question.on(x), answer);
                row("told", tolds, Restaurants.tolds(x));
                due("as it was", Restaurants.probe(x).equals(Restaurants.probe(recipe.make())) ? 1 : 0, 1);
            });
        }
    }

    private static void onlyThought() {
        onlyThought("next", x -> x.next());
        onlyThought("then", x -> x.then(60, 0, 0));
        onlyThought("first", x -> x.first(0));
        onlyThought("never", x -> x.never());
        onlyThought("sham", x -> x.sham(0, 60));
        onlyThought("alike", x -> x.alike(1, 60));
        onlyThought("whose", x -> x.whose(0, 0));
        onlyThought("whose by STEPS", x -> x.whose(0, 1));
        onlyThought("rank", x -> x.rank(0));
        onlyThought("harm", x -> x.harm(0, 60));
        onlyThought("cramps", x -> x.cramps(0, 60));
        onlyThought("enough", x -> x.enough(99, 0));
        onlyThought("meals", x -> x.meals(60));
        onlyThought("odds", x -> x.odds(0, 60, 0));
        onlyThought("judge", x -> x.judge(0));
        onlyThought("law", x -> x.law(0, 1, 2, 3));
        onlyThought("ofDiner", x -> x.ofDiner(0, 6));
        onlyThought("as", x -> x.as(0, 0));
        onlyThought("filling", x -> x.filling(7));
        onlyThought("count", x -> x.count(9));
        onlyThought("told", x -> x.told(5));
    }

    private static void nobody() {
        test("15: nobody is SERVED without DINERS", () -> due("next", new LooksServed().next(), 0));
        test("18: nobody never, without DINERS", () -> due("never", new LooksServed().never(), 0));
        test("20: no DINERS at all are fed alike by 0", () -> {
            LooksServed x = new LooksServed();
            row("alike", of(0, 0, BEYOND), x.alike(0, 1), x.alike(0, 60), x.alike(1, 1));
        });
        test("21: without DINERS a SHEET of zeros is so with any WAITERS", () -> {
            LooksServed x = new LooksServed();
            x.sheet(0, 8, 40);
            row("whose", of(0b11110, 40), x.whose(0, 0), x.whose(0, 1));
            x.put(0, 39, 1);
            row("whose", of(0, 39), x.whose(0, 0), x.whose(0, 1));
        });
        test("25: nobody has HUNGER without DINERS", () -> {
            LooksServed x = new LooksServed();
            row("enough", of(1, 1, 1, 1), x.enough(1, 0), x.enough(1, 60), x.enough(99, 0), x.enough(99, 60));
        });
        test("26: no COURSES without DINERS", () -> {
            LooksServed x = new LooksServed();
            row("meals", of(0, 0), x.meals(0), x.meals(60));
        });
    }

    private static void beyondTheLastStep() {
        test("16: behind STEP 9999 the rest of STEP by 16 goes on", () -> {
            LooksServed x = Restaurants.atStep(9999);
            write(x, 0, "(s=0)*h");
            x.diner(0, 30, 0);
            x.diner(0, 60, 0);
            // At 9999 s is 15: the least number; at 10000, 10016, .. it is 0: the hungrier one.
            row("HAD of 1", of(0, 0, 1, 1, 1, 2), x.then(0, 1, 1), x.then(1, 1, 1), x.then(2, 1, 1), x.then(3, 1, 1),
                x.then(17, 1, 1), x.then(18, 1, 1));
            row("first", of(1, 2), x.first(0), x.first(1));
            row("STEP stays", of(9999, STATE), x.count(2), x.steps(1));
        });
        test("21: WHOSE goes on behind STEP 9999", () -> {
            LooksServed x = Restaurants.atStep(9999);
            write(x, 0, "(s=0)*h");
            x.diner(0, 30, 0);
            x.diner(0, 60, 0);
            sheetOf(x, 0, 8, 1, 2, 1, 1);
            row("whose", of(0b10, 4), x.whose(0, 0), x.whose(0, 1));
        });
        test("17 .. 27: every question has its answer at STEP 9999", () -> {
            LooksServed x = Restaurants.atStep(9999);
            write(x, 0, "0");
            x.diner(0, 40, 5);
            x.diner(0, 50, 0);
            row("answers", of(1, 35, 60, NONE, 0b10, 0, 6), x.next(), x.then(1, 0, 0), x.then(60, 0, 1), x.first(1),
                x.never(), x.sham(0, 60), x.sham(1, 60));
            row("answers", of(6, 0, 60, 2, 60, 2, 5), x.alike(2, 60), x.harm(0, 60), x.cramps(1, 60),
                x.enough(51, 1), x.meals(60), x.odds(1, 60, 0), x.odds(1, 60, 1));
            x.tell(86);
            x.tell(82);
            row("check", of(0, 9999), x.check(), x.count(2));
        });
    }

    private static void then() {
        test("16: behind 0 STEPS is now", () -> {
            LooksServed x = shammers(3);
            x.change(0, 2, 7);
            row("then", of(40, 7, 0), x.then(0, 0, 0), x.then(0, 0, 1), x.then(0, 0, 2));
            x.change(0, 3, 1);
            due("GONE", x.then(0, 0, 2), 1);
        });
        test("16: behind 1 and 60 STEPS", () -> {
            LooksServed x = shammers(3, 0);
            row("then", of(35, 1, 0, 60), x.then(1, 0, 0), x.then(1, 0, 1), x.then(60, 0, 0), x.then(60, 0, 1));
            row("unserved", of(41, 99, 0), x.then(1, 1, 0), x.then(60, 1, 0), x.then(60, 1, 1));
        });
        test("16: HAD is held at 99", () -> {
            LooksServed x = shammers(3);
            x.change(0, 2, 40);
            row("then", of(98, 99, 99), x.then(58, 0, 1), x.then(59, 0, 1), x.then(60, 0, 1));
        });
        test("16: the eighth DINER", () -> {
            LooksServed x = eight(0);
            row("then", of(99, 0), x.then(60, 7, 0), x.then(60, 7, 1));
        });
        test("16: KIND and m as they are now", () -> {
            LooksServed x = shammers(9, 0);
            row("a DINER", of(41, 99), x.then(1, 1, 0), x.then(60, 1, 0));
            x.become(1, 35);
            row("a CHILD, m 5", of(43, 99), x.then(1, 1, 0), x.then(60, 1, 0));
            x.become(1, 34);
            row("a CHILD, m 4", of(42, 44), x.then(1, 1, 0), x.then(2, 1, 0));
            x.become(1, 19);
            row("a PRIEST, m 9", of(40, 40), x.then(1, 1, 0), x.then(60, 1, 0));
        });
        test("16: GONE in the last of the STEPS, not one ahead of it", () -> {
            LooksServed x = shammers(9, 0);
            write(x, 1, "h=60");
            row("then", of(0, 1, 1, 60), x.then(19, 1, 2), x.then(20, 1, 2), x.then(60, 1, 2), x.then(60, 1, 0));
        });
    }

    private static void firstAndNever() {
        test("17: behind 1 STEP at the least", () -> due("first", waiting(61).first(1), 1));
        test("17: behind 2 STEPS", () -> due("first", waiting(60).first(1), 2));
        test("17: behind 59 STEPS", () -> due("first", waiting(3).first(1), 59));
        test("17: behind 60 STEPS at the most", () -> due("first", waiting(2).first(1), 60));
        test("17: not by 60, though by 61", () -> {
            LooksServed x = waiting(1);
            due("first", x.first(1), NONE);
            x.steps(1);
            due("first", x.first(1), 60);
        });
        test("17: more than now, not more than at first", () -> {
            LooksServed x = waiting(60);
            x.change(1, 2, 50);
            due("first", x.first(1), 2);
        });
        test("17: HAD 98 can be more, HAD 99 can't", () -> {
            LooksServed x = shammers(0);
            x.change(0, 2, 98);
            due("98", x.first(0), 1);
            x.change(0, 2, 99);
            due("99", x.first(0), NONE);
        });
        test("17: one that is GONE, and one that will be", () -> {
            LooksServed x = waiting(50);
            write(x, 1, "h=61");
            due("gone ahead of its turn", x.first(1), NONE);
            x.change(0, 3, 1);
            row("first", of(NONE, 1), x.first(0), x.first(1));
        });
        test("18: by 60 STEPS just so", () -> due("never", waiting(2).never(), 0));
        test("18: by 61 STEPS, so not by 60", () -> due("never", waiting(1).never(), 2));
        test("18: all eight, if all are GONE", () -> {
            LooksServed x = eight(0);
            allGone(x);
            due("never", x.never(), 255);
        });
        test("18: all but the first, and all but the last", () -> {
            LooksServed x = eight(0);
            due("never", x.never(), 254);
            x.change(7, 1, 1);
            due("never", x.never(), 127);
        });
        test("18: HAD 98 is no never, HAD 99 is", () -> {
            LooksServed x = shammers(0, 0);
            x.waiters(2);
            x.change(0, 2, 98);
            x.change(1, 2, 99);
            due("never", x.never(), 2);
        });
    }

    private static void sham() {
        test("19: 0 is enough", () -> {
            LooksServed x = shammers(9, 0);
            row("sham", of(0, 0), shammers(0).sham(0, 1), shammers(9).sham(0, 60));
            x.waiters(2);
            due("sham", x.sham(1, 1), 0);
        });
        test("19: 9 is just enough against 8, and against a later 9", () ->
            row("sham", of(9, 9), shammers(8, 0).sham(1, 60), shammers(0, 9).sham(0, 60)));
        test("19: none against an earlier 9", () -> due("sham", shammers(9, 0).sham(1, 60), NONE));
        test("19: by 1 STEP, and by 60", () -> {
            LooksServed x = waiting(52);
            row("sham", of(9, 0), x.sham(1, 1), x.sham(1, 60));
        });
        test("19: the one's SHAM of now is nothing", () -> {
            LooksServed x = shammers(4, 9);
            row("sham", of(9, 5), x.sham(0, 1), x.sham(1, 1));
        });
        test("19: by n, not by n and 1", () -> {
            LooksServed x = waiting(2);
            row("sham", of(NONE, 9, 1, 0), x.sham(1, 50), x.sham(1, 51), x.sham(1, 59), x.sham(1, 60));
        });
        test("19: HAD 99, and GONE", () -> {
            LooksServed x = shammers(0, 0);
            x.change(0, 2, 99);
            due("HAD 99", x.sham(0, 60), NONE);
            x.change(0, 2, 98);
            due("HAD 98", x.sham(0, 60), 0);
            x.change(0, 3, 1);
            due("GONE", x.sham(0, 60), NONE);
        });
    }

    private static void alike() {
        test("20: nobody told, 0", () -> {
            LooksServed x = shammers(9, 9);
            row("alike", of(0, 0), x.alike(0, 1), x.alike(0, 60));
            allGone(x);
            due("alike", x.alike(0, 60), 0);
        });
        test("20: all eight by four WAITERS", () -> {
            LooksServed x = eight(3);
            x.waiters(4);
            row("alike", of(NONE, 3, 4), x.alike(255, 60), x.alike(0b1111, 60), x.alike(0b11110000, 60));
        });
        test("20: all eight by turns", () -> {
            LooksServed x = eight(3);
            write(x, 0, "h");
            for (int course = 0; course < 8; course++) x.fills(course, 30);
            row("alike", of(NONE, 0, 0), x.alike(255, 7), x.alike(255, 8), x.alike(255, 60));
        });
        test("20: 9 is just enough, and isn't", () -> {
            LooksServed x = shammers(8, 0);
            due("against 8", x.alike(2, 60), 9);
            x.change(0, 1, 9);
            due("against 9", x.alike(2, 60), NONE);
            due("the first of like ones", shammers(0, 9).alike(1, 1), 9);
        });
        test("20: they all have it, those that had more, too", () -> {
            LooksServed x = shammers(9, 0, 5);
            row("one", of(5, NONE), x.alike(0b001, 60), x.alike(0b010, 60));
            x.waiters(2);
            row("of two", of(5, NONE, NONE), x.alike(0b011, 60), x.alike(0b110, 60), x.alike(0b111, 60));
        });
        test("20: one of them that is GONE, or has HAD 99", () -> {
            LooksServed x = shammers(0, 0);
            x.waiters(4);
            x.change(1, 2, 99);
            row("alike", of(0, NONE, NONE), x.alike(1, 60), x.alike(2, 60), x.alike(3, 60));
            x.change(1, 2, 98);
            due("98", x.alike(3, 60), 0);
            x.change(1, 3, 1);
            due("GONE", x.alike(3, 60), NONE);
        });
        test("20: a set of more bits than there are DINERS", () -> {
            LooksServed x = shammers(0, 0);
            row("alike", of(0, BEYOND, BEYOND, BEYOND, BEYOND), x.alike(1, 1), x.alike(4, 1), x.alike(-1, 1),
                x.alike(MIN, 1), x.alike(MAX, 1));
            LooksServed y = eight(0);
            row("alike", of(NONE, BEYOND, BEYOND), y.alike(255, 1), y.alike(256, 1), y.alike(256 + 1, 1));
        });
    }

    private static void whose() {
        test("21: each of one to four WAITERS by its bit", () -> {
            LooksServed x = shammers(5, 4, 3, 2, 1);
            int[] sets = {1, 3, 7, 15, 31};
            int[] bits = {2, 4, 8, 16, 0};
            for (int i = 0; i < sets.length; i++) {
                sheetOf(x, 0, 8, sets[i]);
                due("whose", x.whose(0, 0), bits[i]);
            }
        });
        test("21: more WAITERS than DINERS are all alike", () -> {
            LooksServed x = shammers(5, 4);
            sheetOf(x, 0, 16, 3, 3);
            due("from two on", x.whose(0, 0), 0b11100);
            x.change(1, 3, 1);
            sheetOf(x, 0, 16, 1, 1);
            due("from one on", x.whose(0, 0), 0b11110);
        });
        test("21: a SHEET of no numbers is so with any, for 0 STEPS", () -> {
            LooksServed x = shammers(5, 4);
            x.sheet(0, 32, 0);
            row("whose", of(0b11110, 0), x.whose(0, 0), x.whose(0, 1));
        });
        test("21: forty numbers, all of them", () -> {
            LooksServed x = shammers(5, 4);
            x.sheet(0, 8, 40);
            for (int i = 0; i < 40; i++) x.put(0, i, 1);
            row("whose", of(0b10, 40), x.whose(0, 0), x.whose(0, 1));
            x.put(0, 39, 2);
            row("the last is wrong", of(0, 39), x.whose(0, 0), x.whose(0, 1));
            x.put(0, 0, 2);
            row("the first, too", of(0, 0), x.whose(0, 0), x.whose(0, 1));
        });
        test("21: up to the first that is wrong, though others are right behind it", () -> {
            LooksServed x = shammers(5, 4);
            sheetOf(x, 0, 8, 1, 1, 2, 1);
            row("whose", of(0, 2), x.whose(0, 0), x.whose(0, 1));
        });
        test("21: for how many STEPS, with as many WAITERS as there are", () -> {
            LooksServed x = shammers(5, 4);
            sheetOf(x, 0, 8, 3, 3, 1);
            due("one", x.whose(0, 1), 0);
            x.waiters(2);
            due("two", x.whose(0, 1), 2);
            x.waiters(4);
            due("four", x.whose(0, 1), 2);
        });
        test("21: the eighth DINER's bit in rows of 8, 16, 32 bits", () -> {
            LooksServed x = eight(1);
            x.change(7, 1, 2);
            for (int bits : new int[] {8, 16, 32}) {
                sheetOf(x, 0, bits, 128, 128);
                row("whose " + bits, of(0b10, 2), x.whose(0, 0), x.whose(0, 1));
            }
        });
        test("21: a bit beyond the DINERS is wrong", () -> {
            LooksServed x = shammers(5);
            for (int bits : new int[] {8, 16, 32}) {
                sheetOf(x, 0, bits, 3);
                row("whose " + bits, of(0, 0), x.whose(0, 0), x.whose(0, 1));
            }
            sheetOf(x, 0, 16, 257);
            due("257", x.whose(0, 0), 0);
            sheetOf(x, 0, 32, MIN + 1);
            due("the sign", x.whose(0, 0), 0);
            sheetOf(x, 0, 8, 257);
            due("its lowest bits alone are kept", x.whose(0, 0), 0b11110);
        });
        test("21: one that goes is served no more", () -> {
            LooksServed x = shammers(5, 4);
            write(x, 1, "c=2");
            sheetOf(x, 0, 8, 1, 1, 2, 2, 0, 0);
            row("whose", of(0b10, 6), x.whose(0, 0), x.whose(0, 1));
        });
    }

    private static void rank() {
        test("22: from 0 to 7", () -> {
            LooksServed x = shammers(0, 1, 2, 3, 4, 5, 6, 7);
            row("ranks", of(7, 6, 5, 4, 3, 2, 1, 0), x.rank(0), x.rank(1), x.rank(2), x.rank(3), x.rank(4), x.rank(5),
                x.rank(6), x.rank(7));
        });
        test("22: like ones by numbers", () -> {
            LooksServed x = eight(4);
            row("ranks", of(0, 1, 6, 7), x.rank(0), x.rank(1), x.rank(6), x.rank(7));
        });
        test("22: those that are GONE don't stand ahead", () -> {
            LooksServed x = shammers(9, 9, 4);
            x.change(0, 3, 1);
            row("ranks", of(STATE, 0, 1), x.rank(0), x.rank(1), x.rank(2));
            x.change(1, 3, 1);
            row("ranks", of(STATE, STATE, 0), x.rank(0), x.rank(1), x.rank(2));
            x.change(2, 3, 1);
            due("the last", x.rank(2), STATE);
        });
        test("22: FACES below 0", () -> {
            LooksServed x = shammers();
            x.diner(30, 99, 0);
            x.diner(30, 98, 0);
            x.diner(30, 97, 0);
            row("ranks", of(1, 2, 0), x.rank(0), x.rank(1), x.rank(2));
        });
    }

    private static void harm() {
        test("23: behind 0 STEPS nobody", () -> due("harm", shammers(5, 4).harm(0, 0), 0));
        test("23: behind 1 and 60 STEPS", () -> {
            LooksServed x = shammers(5, 4);
            row("harm", of(2, 2), x.harm(0, 1), x.harm(0, 60));
        });
        test("23: with SHAM 0 already nobody", () -> {
            LooksServed x = shammers(0, 0);
            row("harm", of(0, 0), x.harm(0, 60), x.harm(1, 60));
        });
        test("23: a SHAM that like ones make needless harms nobody, one more STEP harms the next", () -> {
            LooksServed x = shammers(1, 0);
            due("the least number anyway", x.harm(0, 60), 0);
            LooksServed y = shammers(0, 1);
            due("the later one", y.harm(1, 60), 1);
        });
        test("23: it is left out, though it would have HAD more itself", () -> {
            LooksServed x = shammers(9, 0);
            write(x, 1, "f>5");
            row("then", of(1, 59), x.then(60, 0, 1), x.then(60, 1, 1));
            due("harm", x.harm(0, 60), 0);
        });
        test("23: who has HAD 99 can't have more, who has 98 can", () -> {
            LooksServed x = shammers(5, 4);
            x.change(1, 2, 99);
            due("99", x.harm(0, 60), 0);
            x.change(1, 2, 98);
            due("98", x.harm(0, 60), 2);
        });
        test("23: two are harmed, the one behind 1 STEP, the other behind 2", () -> {
            LooksServed x = shammers(9, 0, 0);
            x.change(0, 2, 1);
            // Who has HAD none shows 5: without its SHAM DINER 0 would come third.
            write(x, 0, "(c=0)*5");
            row("harm", of(2, 6, 6), x.harm(0, 1), x.harm(0, 2), x.harm(0, 60));
        });
        test("23: one that is GONE harms nobody and isn't harmed", () -> {
            LooksServed x = shammers(5, 4, 3);
            x.change(1, 3, 1);
            due("0 harms 2", x.harm(0, 60), 4);
            due("1 is GONE", x.harm(1, 60), 0);
        });
        test("23: the eighth is harmed, and harms", () -> {
            LooksServed x = shammers(5, 0, 0, 0, 0, 0, 0, 4);
            due("harm", x.harm(0, 60), 128);
            x.change(7, 1, 9);
            due("harm", x.harm(7, 60), 1);
        });
    }

    private static void cramps() {
        test("24: none of 0 STEPS", () -> {
            LooksServed x = shammers(0);
            x.change(0, 0, 99);
            due("cramps", x.cramps(0, 0), 0);
        });
        test("24: 50 counts, 49 doesn't", () -> {
            LooksServed x = shammers(9);
            x.diner(10, 50, 0);
            x.diner(10, 49, 0);
            row("of PRIESTS, who don't grow", of(1, 60, 0, 0), x.cramps(1, 1), x.cramps(1, 60), x.cramps(2, 1),
                x.cramps(2, 60));
        });
        test("24: behind each, so not now, but at the last", () -> {
            LooksServed x = shammers(9, 0);
            x.change(0, 0, 54);
            x.change(1, 0, 48);
            row("49 behind the first", of(0, 0), x.cramps(0, 1), x.cramps(0, 60));
            row("50 behind the second", of(0, 1, 2), x.cramps(1, 1), x.cramps(1, 2), x.cramps(1, 3));
            x.change(0, 0, 55);
            row("50 behind the first", of(1, 1), x.cramps(0, 1), x.cramps(0, 60));
        });
        test("24: all of 60", () -> {
            LooksServed x = shammers(9, 0);
            x.change(1, 0, 49);
            due("cramps", x.cramps(1, 60), 60);
        });
        test("24: one that is GONE keeps its HUNGER", () -> {
            LooksServed x = shammers(9, 0);
            x.change(1, 0, 50);
            x.change(1, 3, 1);
            due("cramps", x.cramps(1, 60), 60);
            x.change(1, 0, 49);
            due("cramps", x.cramps(1, 60), 0);
        });
    }

    private static void enough() {
        test("25: v or more: v isn't enough, v less 1 is", () -> {
            LooksServed x = shammers(0);
            row("now", of(NONE, 1), x.enough(40, 0), x.enough(41, 0));
            row("behind 1", of(NONE, 1), x.enough(35, 1), x.enough(36, 1));
        });
        test("25: v 99 and HUNGER 98, 99", () -> {
            LooksServed x = shammers(0);
            x.change(0, 0, 98);
            due("98", x.enough(99, 0), 1);
            x.change(0, 0, 99);
            due("99", x.enough(99, 0), NONE);
        });
        test("25: v 1 and HUNGER 0, 1", () -> {
            LooksServed x = shammers(0);
            x.change(0, 0, 0);
            due("0", x.enough(1, 0), 1);
            x.change(0, 0, 1);
            due("1", x.enough(1, 0), NONE);
        });
        test("25: each of one to four", () -> {
            LooksServed x = shammers(4, 3, 2, 1);
            for (int diner = 0; diner < 4; diner++) x.change(diner, 0, 10 * (4 - diner));
            // 40 sinks to 35; the unserved grow to 31, 21, 11.
            row("enough", of(1, 1, 1, 1), x.enough(36, 1), x.enough(99, 1), x.enough(41, 0), x.enough(99, 0));
            row("enough", of(NONE, NONE), x.enough(35, 1), x.enough(40, 0));
            x.change(0, 0, 0);
            row("enough", of(1, 2, 2, NONE), x.enough(32, 1), x.enough(31, 1), x.enough(26, 1), x.enough(25, 1));
            x.change(1, 0, 0);
            row("enough", of(1, 3, 3, NONE), x.enough(22, 1), x.enough(21, 1), x.enough(16, 1), x.enough(15, 1));
            x.change(2, 0, 0);
            row("enough", of(1, 4, 4, NONE), x.enough(12, 1), x.enough(11, 1), x.enough(6, 1), x.enough(5, 1));
        });
        test("25: as many WAITERS as there are doesn't matter", () -> {
            LooksServed x = shammers(0);
            x.waiters(4);
            row("enough", of(1, 4), x.enough(41, 1), x.count(1));
        });
        test("25: behind 60 STEPS", () -> {
            LooksServed x = shammers(3, 2, 1, 0);
            row("enough", of(4, 4, NONE), x.enough(99, 60), x.enough(1, 60), eight(0).enough(99, 60));
        });
        test("25: one that is GONE has HUNGER, too", () -> {
            LooksServed x = shammers(0, 0);
            x.change(1, 3, 1);
            row("enough", of(NONE, 1), x.enough(40, 60), x.enough(41, 60));
        });
    }

    private static void mealsAndOdds() {
        test("26: behind 0, 1, 60 STEPS", () -> {
            LooksServed x = eight(0);
            row("meals", of(0, 1, 60), x.meals(0), x.meals(1), x.meals(60));
            x.waiters(4);
            row("meals", of(0, 4, 240), x.meals(0), x.meals(1), x.meals(60));
        });
        test("26: more than now, HAD held at 99", () -> {
            LooksServed x = shammers(0);
            x.change(0, 2, 40);
            row("meals", of(58, 59, 59), x.meals(58), x.meals(59), x.meals(60));
            x.change(0, 2, 99);
            due("meals", x.meals(60), 0);
        });
        test("26: no COURSES for those that are GONE", () -> {
            LooksServed x = eight(0);
            allGone(x);
            due("meals", x.meals(60), 0);
        });
        test("27: 0 is 0 by 1", () -> {
            LooksServed x = shammers(9, 0);
            row("none", of(0, 1, 0, 1), x.odds(1, 60, 0), x.odds(1, 60, 1), x.odds(0, 0, 0), x.odds(0, 0, 1));
            x.change(0, 3, 1);
            row("GONE", of(0, 1), x.odds(0, 60, 0), x.odds(0, 60, 1));
        });
        test("27: all is 1 by 1", () -> {
            LooksServed x = shammers(0, 0);
            row("all", of(1, 1, 1, 1), x.odds(0, 1, 0), x.odds(0, 1, 1), x.odds(0, 60, 0), x.odds(0, 60, 1));
        });
        int[] above = {9, 4, 7, 3, 1, 2, 3, 1, 1};
        int[] below = {10, 5, 10, 5, 2, 5, 10, 5, 10};
        for (int against = 0; against < 9; against++) {
            int sham = against;
            test("27: " + (9 - sham) + " of 10 in lowest terms", () -> {
                LooksServed x = shammers(sham, 0);
                row("odds", of(above[sham], below[sham]), x.odds(1, 60, 0), x.odds(1, 60, 1));
                due("SHAM of now is nothing", x.change(1, 1, 9), 0);
                row("odds", of(above[sham], below[sham]), x.odds(1, 60, 0), x.odds(1, 60, 1));
            });
        }
        test("27: HAD 98 can be more, HAD 99 can't", () -> {
            LooksServed x = shammers(0);
            x.change(0, 2, 98);
            row("odds", of(1, 1), x.odds(0, 60, 0), x.odds(0, 60, 1));
            x.change(0, 2, 99);
            row("odds", of(0, 1), x.odds(0, 60, 0), x.odds(0, 60, 1));
        });
    }

    public static void main(String[] args) {
        onlyThought();
        nobody();
        beyondTheLastStep();
        then();
        firstAndNever();
        sham();
        alike();
        whose();
        rank();
        harm();
        cramps();
        enough();
        mealsAndOdds();
        finish("ThoughtEdgeTest");
    }
}
