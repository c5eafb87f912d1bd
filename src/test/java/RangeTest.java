import java.util.LinkedHashSet;
import java.util.List;
import java.util.Set;

/**
 * Each argument of each act: the least and the greatest value that is taken, and that the ones just beyond them
 * (and the least and greatest ints) are BEYOND, are counted once, and leave everything else as it was.
 */
public final class RangeTest extends Checks {
    private interface Arg {
        int on(LooksServed x, int v);
    }

    private static Restaurants.Recipe recipe;
    private static String place;
    private static List<Integer> untouched;

    private static void in(String name, Restaurants.Recipe itsRecipe) {
        place = name;
        recipe = itsRecipe;
        untouched = Restaurants.probe(recipe.make());
    }

    private static void taken(String name, int v, Arg call) {
        test(name + " " + v + " is taken, " + place, () -> {
            LooksServed x = recipe.make();
            int before = x.told(1);
            int answer = call.on(x, v);
            due("an answer that is BEYOND", answer == BEYOND ? 1 : 0, 0);
            due("told(1)", x.told(1), before);
        });
    }

    private static void refused(String name, int v, Arg call) {
        test(name + " " + v + " is BEYOND, " + place, () -> {
            LooksServed x = recipe.make();
            int[] tolds = Restaurants.tolds(x);
            due("the call", call.on(x, v), BEYOND);
            tolds[1]++;
            row("told", tolds, Restaurants.tolds(x));
            due("all is as it was", Restaurants.probe(x).equals(untouched) ? 1 : 0, 1);
        });
    }

    private static void range(String name, int least, int greatest, Arg call) {
        if (least <= greatest) taken(name, least, call);
        if (least < greatest) taken(name, greatest, call);
        Set<Integer> beyond = new LinkedHashSet<>(List.of(least - 1, greatest + 1));
        beyond.add(MIN);
        beyond.add(MAX);
        for (int v : beyond) refused(name, v, call);
    }

    /** The acts that are asked of a DINER. */
    private static void diners(int many) {
        int last = many - 1;
        range("ofDiner: diner", 0, last, (x, v) -> x.ofDiner(v, 6));
        range("change: diner", 0, last, (x, v) -> x.change(v, 0, 1));
        range("become: diner", 0, last, (x, v) -> x.become(v, 12));
        range("as: diner", 0, last, (x, v) -> x.as(v, 0));
        range("then: diner", 0, last, (x, v) -> x.then(3, v, 0));
        range("first: diner", 0, last, (x, v) -> x.first(v));
        range("sham: diner", 0, last, (x, v) -> x.sham(v, 9));
        range("alike: diners", 0, (1 << many) - 1, (x, v) -> x.alike(v, 9));
        range("rank: diner", 0, last, (x, v) -> x.rank(v));
        range("harm: diner", 0, last, (x, v) -> x.harm(v, 9));
        range("cramps: diner", 0, last, (x, v) -> x.cramps(v, 9));
        range("odds: diner", 0, last, (x, v) -> x.odds(v, 9, 0));
        range("voice: diner", 0, last, (x, v) -> x.voice(v, 3, 7));
    }

    private static void restaurant() {
        range("fills: course", 0, 7, (x, v) -> x.fills(v, 6));
        range("fills: v", 0, 30, (x, v) -> x.fills(2, v));
        range("filling: course", 0, 7, (x, v) -> x.filling(v));
        range("waiters: n", 1, 4, (x, v) -> x.waiters(v));
        range("diner: km", 0, 69, (x, v) -> x.diner(v, 1, 1));
        range("diner: hunger", 0, 99, (x, v) -> x.diner(1, v, 1));
        range("diner: sham", 0, 9, (x, v) -> x.diner(1, 1, v));
        range("ofDiner: what", 0, 6, (x, v) -> x.ofDiner(2, v));
        range("change: what", 0, 3, (x, v) -> x.change(2, v, 1));
        range("change: HUNGER", 0, 99, (x, v) -> x.change(2, 0, v));
        range("change: SHAM", 0, 9, (x, v) -> x.change(2, 1, v));
        range("change: HAD", 0, 99, (x, v) -> x.change(2, 2, v));
        range("change: GONE", 0, 1, (x, v) -> x.change(1, 3, v));
        range("become: km", 0, 69, (x, v) -> x.become(2, v));
        range("as: kind", 0, 6, (x, v) -> x.as(2, v));
    }

    private static void textsAndSteps() {
        range("feed: n", 1, 8, (x, v) -> x.feed(0x3131313131313131L, v));
        range("text: use", 0, 1, (x, v) -> x.text(v));
        range("law: use", 0, 1, (x, v) -> x.law(v, 7, 8, 9));
        range("steps: n", 1, 60, (x, v) -> x.steps(v));
        range("loose: n", 1, 40, (x, v) -> x.loose(v));
    }

    private static void wouldBe() {
        range("then: n", 0, 60, (x, v) -> x.then(v, 2, 1));
        range("then: what", 0, 2, (x, v) -> x.then(5, 2, v));
        range("sham: n", 1, 60, (x, v) -> x.sham(2, v));
        range("alike: n", 1, 60, (x, v) -> x.alike(5, v));
        range("alike: n for nobody", 1, 60, (x, v) -> x.alike(0, v));
        range("whose: sheet", 0, 3, (x, v) -> x.whose(v, 0));
        range("whose: what", 0, 1, (x, v) -> x.whose(0, v));
        range("harm: n", 0, 60, (x, v) -> x.harm(2, v));
        range("cramps: n", 0, 60, (x, v) -> x.cramps(2, v));
        range("enough: v", 1, 99, (x, v) -> x.enough(v, 5));
        range("enough: n", 0, 60, (x, v) -> x.enough(60, v));
        range("meals: n", 0, 60, (x, v) -> x.meals(v));
        range("odds: n", 0, 60, (x, v) -> x.odds(2, v, 1));
        range("odds: part", 0, 1, (x, v) -> x.odds(2, 5, v));
        range("voice: act", 0, 3, (x, v) -> x.voice(2, v, 7));
    }

    private static void sheets() {
        range("sheet: sheet", 0, 3, (x, v) -> x.sheet(v, 8, 2));
        for (int bits : new int[] {0, 8, 16, 32}) taken("sheet: bits", bits, (x, v) -> x.sheet(0, v, 3));
        for (int bits : new int[] {-1, 1, 7, 9, 15, 17, 24, 31, 33, 64, -8, 256 + 8, MIN, MAX}) {
            refused("sheet: bits", bits, (x, v) -> x.sheet(0, v, 3));
        }
        taken("sheet: n", 0, (x, v) -> x.sheet(0, 8, v));
        for (int bits : new int[] {8, 16, 32}) {
            taken("sheet of " + bits + ": n", 40, (x, v) -> x.sheet(0, bits, v));
            refused("sheet of " + bits + ": n", 41, (x, v) -> x.sheet(0, bits, v));
            refused("sheet of " + bits + ": n", MAX, (x, v) -> x.sheet(0, bits, v));
        }
        for (int n : new int[] {MIN, -1, 41, MAX}) taken("a missing sheet: n", n, (x, v) -> x.sheet(0, 0, v));
        range("put: sheet", 0, 3, (x, v) -> x.put(v, 0, 1));
        range("put: i of three", 0, 2, (x, v) -> x.put(0, v, 8));
        range("put: i of one", 0, 0, (x, v) -> x.put(2, v, 8));
        range("move: sheet", 0, 3, (x, v) -> x.move(v, 0, 1, 0, 1));
        range("move: other", 0, 3, (x, v) -> x.move(0, 0, v, 0, 1));
        range("move: n of three", 0, 3, (x, v) -> x.move(0, 0, 0, 0, v));
        range("move: n for two", 0, 2, (x, v) -> x.move(0, 0, 1, 0, v));
        range("move: n of two", 0, 2, (x, v) -> x.move(1, 0, 0, 0, v));
        range("move: one of three, i", 0, 2, (x, v) -> x.move(0, v, 1, 0, 1));
        range("move: one of two, i", 0, 1, (x, v) -> x.move(1, v, 0, 2, 1));
        range("move: one to one of three, j", 0, 2, (x, v) -> x.move(1, 1, 0, v, 1));
        range("move: two to two of three, j", 0, 1, (x, v) -> x.move(1, 0, 0, v, 2));
        range("move: nothing of three, i", 0, 3, (x, v) -> x.move(0, v, 1, 0, 0));
        range("move: nothing to three, j", 0, 3, (x, v) -> x.move(1, 0, 0, v, 0));
        range("shams: sheet", 0, 3, (x, v) -> x.shams(v));
        range("judge: sheet", 0, 3, (x, v) -> x.judge(v));
        range("count: what", 0, 9, (x, v) -> x.count(v));
        range("told: k", 1, 5, (x, v) -> x.told(v));
    }

    /** Each of these takes any int. */
    private static void anyNumbers() {
        for (int v : new int[] {MIN, BEYOND, KIND, -1, 0, MAX}) {
            taken("law: a", v, (x, a) -> x.law(0, a, 0, 0));
            taken("law: b", v, (x, b) -> x.law(0, 0, b, 0));
            taken("law: c", v, (x, c) -> x.law(1, 0, 0, c));
            taken("put: v", v, (x, n) -> x.put(0, 0, n));
            taken("tell: v", v, (x, n) -> x.tell(n));
        }
    }

    public static void main(String[] args) {
        in("of three DINERS", Restaurants::laden);
        diners(3);
        restaurant();
        textsAndSteps();
        wouldBe();
        sheets();
        anyNumbers();
        in("of eight DINERS", Restaurants::full);
        diners(8);
        range("put: i of forty", 0, 39, (x, v) -> x.put(0, v, 8));
        range("put: i of none", 0, -1, (x, v) -> x.put(1, v, 8));
        range("move: n of forty", 0, 40, (x, v) -> x.move(0, 0, 0, 0, v));
        range("move: n within forty", 0, 20, (x, v) -> x.move(0, 20, 0, 0, v));
        range("move: n of none", 0, 0, (x, v) -> x.move(1, 0, 1, 0, v));
        range("move: i of none", 0, 0, (x, v) -> x.move(1, v, 1, 0, 0));
        in("without DINERS", Restaurants::bare);
        diners(0);
        restaurantOfNobody();
        finish("RangeTest");
    }

    private static void restaurantOfNobody() {
        range("steps: n", 1, 60, (x, v) -> x.steps(v));
        range("loose: n", 1, 40, (x, v) -> x.loose(v));
        range("meals: n", 0, 60, (x, v) -> x.meals(v));
        range("enough: v", 1, 99, (x, v) -> x.enough(v, 5));
        range("enough: n", 0, 60, (x, v) -> x.enough(60, v));
        range("alike: n", 1, 60, (x, v) -> x.alike(0, v));
    }
}
