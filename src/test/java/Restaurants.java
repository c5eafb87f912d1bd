import java.util.ArrayList;
import java.util.List;

/** Restaurants in states worth refusing calls in, and a look at all that such a state holds. */
final class Restaurants {
    interface Recipe {
        LooksServed make();
    }

    private Restaurants() {
    }

    /** As at first. */
    static LooksServed bare() {
        return new LooksServed();
    }

    /** Three DINERS (1 is GONE) and something of everything: an IMAGE, a TAPE, numbers that wait, SHEETS, a TRACE. */
    static LooksServed laden() {
        LooksServed x = new LooksServed();
        Checks.write(x, 0, "c+9-h/9+s");
        Checks.write(x, 1, "h>98");
        x.diner(3, 40, 1);
        x.diner(14, 50, 2);
        x.diner(65, 30, 3);
        x.fills(2, 9);
        x.waiters(2);
        x.seed(77);
        x.steps(2);
        Checks.feed(x, "7");
        tellAhead(x, 1);
        x.image();
        x.steps(3);
        x.change(1, 3, 1);
        Checks.feed(x, "+c");
        x.check();
        tellAhead(x, 3);
        Checks.sheetOf(x, 0, 8, 1, 2, 3);
        Checks.sheetOf(x, 1, 8, 4, 5);
        Checks.sheetOf(x, 2, 16, 6);
        x.voice(2, 3, 5);
        return x;
    }

    /** At the last STEP, with two DINERS. */
    static LooksServed late() {
        LooksServed x = atStep(9999);
        x.diner(20, 60, 1);
        x.diner(37, 30, 2);
        Checks.feed(x, "h");
        tellAhead(x, 2);
        Checks.sheetOf(x, 0, 8, 2, 1);
        x.image();
        return x;
    }

    /** Eight DINERS, THE TAPE and the numbers that wait full, a SHEET of forty numbers. */
    static LooksServed full() {
        LooksServed x = new LooksServed();
        for (int i = 0; i < 8; i++) x.diner(10 * Math.min(i, 6) + i, 10 * i + 9, i);
        x.waiters(4);
        x.sheet(0, 8, 40);
        x.put(0, 39, 9);
        x.sheet(1, 32, 0);
        Checks.sheetOf(x, 2, 16, 7, 6, 5, 4, 3, 2, 1, 0);
        for (int i = 0; i < 6; i++) x.feed(0x2B632B632B632B63L, 8);
        x.feed(0x3939, 2);
        tellAhead(x, 3);
        for (int i = 3; i < 20; i++) x.tell(i);
        x.image();
        x.voice(6, 3, 5);
        return x;
    }

    /** Without DINERS, so that it is soon there. */
    static LooksServed atStep(int step) {
        LooksServed x = new LooksServed();
        for (int gone = 0; gone < step; gone += 60) x.steps(Math.min(60, step - gone));
        return x;
    }

    /** What check() asks for: HUNGER of all together behind 1, 2, .. STEPS. */
    static void tellAhead(LooksServed x, int n) {
        int diners = x.count(0);
        for (int i = 1; i <= n; i++) {
            int sum = 0;
            for (int d = 0; d < diners; d++) sum += x.then(i, d, 0);
            x.tell(sum);
        }
    }

    /** By k; at 0 nothing. */
    static int[] tolds(LooksServed x) {
        int[] all = new int[6];
        for (int k = 1; k <= 5; k++) all[k] = x.told(k);
        return all;
    }

    /** All that can be asked for without a change. */
    private static void look(LooksServed x, List<Integer> seen) {
        for (int what = 0; what < 10; what++) seen.add(x.count(what));
        for (int course = 0; course < 8; course++) seen.add(x.filling(course));
        int diners = x.count(0);
        for (int diner = 0; diner < diners; diner++) {
            for (int what = 0; what < 7; what++) seen.add(x.ofDiner(diner, what));
        }
        for (int i : Checks.trace(x)) seen.add(i);
        for (int h = 0; h < 100; h += 33) seen.add(x.law(0, h, 40, 3));
        seen.add(x.law(1, 98, 0, 0));
        seen.add(x.law(1, 99, 0, 0));
        seen.add(x.next());
        seen.add(x.meals(60));
        seen.add(x.never());
    }

    private static void lookThroughSheet(LooksServed x, int sheet, List<Integer> seen) {
        seen.add(x.shams(sheet));
        for (int sham : Checks.ofAll(x, 3)) seen.add(sham);
        for (int i : new int[] {-1, 0, 1, 2, 3, 7, 8, 39, 40}) seen.add(x.put(sheet, i, 1));
        // 256 is 0 in 8 bits and no SHAM in more, 65536 is 0 in 16 bits, too.
        seen.add(x.put(sheet, 0, 256));
        seen.add(x.shams(sheet));
        seen.add(x.put(sheet, 0, 65536));
        seen.add(x.shams(sheet));
    }

    /** Everything that the state holds but what told() tells; the restaurant is used up by it. */
    static List<Integer> probe(LooksServed x) {
        List<Integer> seen = new ArrayList<>();
        look(x, seen);
        seen.add(x.check());
        seen.add(x.text(0));
        for (int c = 0; c < 3; c++) seen.add(x.law(0, 0, c, 0));
        for (int sheet = 0; sheet < 4; sheet++) lookThroughSheet(x, sheet, seen);
        seen.add(x.restore());
        look(x, seen);
        seen.add(x.check());
        seen.add(x.text(1));
        seen.add(x.law(1, 0, 0, 0));
        seen.add(x.image());
        return seen;
    }
}
