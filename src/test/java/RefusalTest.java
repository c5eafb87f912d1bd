import java.util.List;

/**
 * The other ERRORS, and which of two comes first: each refused call is answered by its ERROR, is counted once under
 * it, and leaves everything else as it was (so does a TEXT with a FAULT, but for THE TAPE, and it counts nowhere).
 */
public final class RefusalTest extends Checks {
    private interface Call {
        int on(LooksServed x);
    }

    private static void refused(String name, int error, Restaurants.Recipe recipe, Call call) {
        test(name, () -> {
            List<Integer> untouched = Restaurants.probe(recipe.make());
            LooksServed x = recipe.make();
            int[] tolds = Restaurants.tolds(x);
            due("the call", call.on(x), error);
            tolds[-1000000000 - error]++;
            row("told", tolds, Restaurants.tolds(x));
            due("all is as it was", Restaurants.probe(x).equals(untouched) ? 1 : 0, 1);
        });
    }

    private static void ofLaden(String name, int error, Call call) {
        refused(name, error, Restaurants::laden, call);
    }

    private static void ofFull(String name, int error, Call call) {
        refused(name, error, Restaurants::full, call);
    }

    private static void ofLate(String name, int error, Call call) {
        refused(name, error, Restaurants::late, call);
    }

    private static void ofBare(String name, int error, Call call) {
        refused(name, error, Restaurants::bare, call);
    }

    /** 43 bytes on THE TAPE. */
    private static LooksServed fed43() {
        LooksServed x = Restaurants.laden();
        for (int i = 0; i < 5; i++) x.feed(0x2B312B312B312B31L, 8);
        return x;
    }

    /** 40 STEPS are left. */
    private static LooksServed forty() {
        LooksServed x = Restaurants.atStep(9959);
        x.diner(15, 40, 2);
        x.image();
        return x;
    }

    private static void none() {
        ofLaden("first: a GONE one has none", NONE, x -> x.first(1));
        ofLaden("sham: a GONE one has none", NONE, x -> x.sham(1, 60));
        ofLaden("alike: a GONE one among others has none", NONE, x -> x.alike(7, 60));
        ofLaden("whose: the SHEET is missing", NONE, x -> x.whose(3, 0));
        ofLaden("whose by STEPS: the SHEET is missing", NONE, x -> x.whose(3, 1));
        ofLaden("enough: not with four", NONE, x -> x.enough(1, 0));
        ofLaden("trace: just beyond the last", NONE, x -> x.trace(x.count(8)));
        ofLaden("trace: -1", NONE, x -> x.trace(-1));
        ofLaden("trace: 40", NONE, x -> x.trace(40));
        ofLaden("trace: the least int", NONE, x -> x.trace(MIN));
        ofLaden("trace: the greatest int", NONE, x -> x.trace(MAX));
        ofLaden("put: the SHEET is missing", NONE, x -> x.put(3, 0, 1));
        ofLaden("move: the one is missing", NONE, x -> x.move(3, 0, 0, 0, 1));
        ofLaden("move: the other is missing", NONE, x -> x.move(0, 0, 3, 0, 1));
        ofLaden("move: one and the same is missing", NONE, x -> x.move(3, 0, 3, 0, 0));
        ofLaden("shams: the SHEET is missing", NONE, x -> x.shams(3));
        ofLaden("judge: the SHEET is missing", NONE, x -> x.judge(3));
        ofBare("trace: no voice() yet", NONE, x -> x.trace(0));
        ofBare("restore: no IMAGE yet", NONE, x -> x.restore());
        ofBare("shams: missing as at first", NONE, x -> x.shams(0));
        ofFull("trace: just beyond the longest", NONE, x -> x.trace(9));
        ofFull("enough: not with four of eight", NONE, x -> x.enough(50, 1));
    }

    private static void stateAndKind() {
        ofLate("steps: one beyond 9999", STATE, x -> x.steps(1));
        ofLate("steps: sixty beyond 9999", STATE, x -> x.steps(60));
        ofLate("loose: one beyond 9999", STATE, x -> x.loose(1));
        ofLate("loose: forty beyond 9999", STATE, x -> x.loose(40));
        refused("steps: 41 where 40 are left", STATE, RefusalTest::forty, x -> x.steps(41));
        refused("steps: 60 where 40 are left", STATE, RefusalTest::forty, x -> x.steps(60));
        ofLaden("rank: it is GONE", STATE, x -> x.rank(1));
        for (int bits : new int[] {8, 16, 32}) {
            ofLaden("sheet of " + bits + ": n is -1", STATE, x -> x.sheet(0, bits, -1));
            ofLaden("sheet of " + bits + ": n is the least int", STATE, x -> x.sheet(3, bits, MIN));
        }
        ofLaden("as: a DINER is no PRIEST", KIND, x -> x.as(0, 1));
        ofLaden("as: a PRIEST is no MOURNER", KIND, x -> x.as(1, 4));
        ofLaden("as: a COOK is no CRITIC", KIND, x -> x.as(2, 2));
        ofLaden("as: a COOK is no COUPLE", KIND, x -> x.as(2, 5));
        ofLaden("move: of 8 to 16 bits", KIND, x -> x.move(0, 0, 2, 0, 1));
        ofLaden("move: of 16 to 8 bits", KIND, x -> x.move(2, 0, 0, 0, 1));
        ofLaden("move: nothing, but of unlike bits", KIND, x -> x.move(0, 0, 2, 0, 0));
        ofFull("move: of 8 to 32 bits", KIND, x -> x.move(0, 0, 1, 0, 0));
        ofFull("move: of 32 to 16 bits", KIND, x -> x.move(1, 0, 2, 0, 0));
    }

    private static void fullOnes() {
        ofFull("diner: a ninth", FULL, x -> x.diner(12, 34, 5));
        ofFull("feed: a 51st byte", FULL, x -> x.feed('1', 1));
        ofFull("feed: eight bytes more", FULL, x -> x.feed(0x3131313131313131L, 8));
        refused("feed: eight where seven fit", FULL, RefusalTest::fed43, x -> x.feed(0x3131313131313131L, 8));
        ofFull("tell: a 21st", FULL, x -> x.tell(5));
    }

    private static void beyondComesFirst() {
        ofFull("diner: a wrong KIND ahead of FULL", BEYOND, x -> x.diner(70, 0, 0));
        ofFull("diner: a wrong HUNGER ahead of FULL", BEYOND, x -> x.diner(0, 100, 0));
        ofFull("diner: a wrong SHAM ahead of FULL", BEYOND, x -> x.diner(0, 0, 10));
        ofFull("feed: no bytes ahead of FULL", BEYOND, x -> x.feed(0, 0));
        ofFull("feed: nine bytes ahead of FULL", BEYOND, x -> x.feed(0, 9));
        ofLate("steps: none ahead of STATE", BEYOND, x -> x.steps(0));
        ofLate("steps: 61 ahead of STATE", BEYOND, x -> x.steps(61));
        ofLate("loose: none ahead of STATE", BEYOND, x -> x.loose(0));
        ofLate("loose: 41 ahead of STATE", BEYOND, x -> x.loose(41));
        ofLaden("as: no such KIND ahead of KIND", BEYOND, x -> x.as(0, 7));
        ofLaden("as: no such DINER ahead of KIND", BEYOND, x -> x.as(3, 6));
        ofLaden("sham: no STEPS ahead of NONE", BEYOND, x -> x.sham(1, 0));
        ofLaden("alike: no STEPS ahead of NONE", BEYOND, x -> x.alike(2, 0));
        ofLaden("alike: one DINER too many ahead of NONE", BEYOND, x -> x.alike(15, 1));
        ofLaden("enough: 61 STEPS ahead of NONE", BEYOND, x -> x.enough(1, 61));
        ofLaden("whose: no such question ahead of NONE", BEYOND, x -> x.whose(3, 2));
        ofLaden("whose: a question below 0 ahead of NONE", BEYOND, x -> x.whose(3, -1));
        ofLaden("sheet: no such SHEET ahead of STATE", BEYOND, x -> x.sheet(4, 8, -1));
        ofLaden("sheet: no such bits ahead of STATE", BEYOND, x -> x.sheet(0, 12, -1));
        ofLaden("sheet: no such SHEET, though missing", BEYOND, x -> x.sheet(4, 0, -1));
        ofLaden("put: no such SHEET, number -1", BEYOND, x -> x.put(4, -1, 1));
        ofLaden("move: the one is none such, the other missing", BEYOND, x -> x.move(4, 0, 3, 0, 1));
        ofLaden("move: the one is missing, the other none such", BEYOND, x -> x.move(3, 0, 4, 0, 1));
    }

    private static void theOthersInTheirOrder() {
        ofLaden("put: NONE ahead of no such number", NONE, x -> x.put(3, -1, 1));
        ofLaden("put: NONE ahead of a number beyond forty", NONE, x -> x.put(3, 40, 1));
        ofLaden("move: NONE ahead of unlike bits and of n", NONE, x -> x.move(2, 0, 3, 0, -1));
        ofLaden("move: NONE ahead of i", NONE, x -> x.move(3, -1, 0, 0, 1));
        ofLaden("move: KIND ahead of n", KIND, x -> x.move(0, 0, 2, 0, -1));
        ofLaden("move: KIND ahead of i", KIND, x -> x.move(0, 4, 2, 0, 1));
        ofLaden("move: KIND ahead of j", KIND, x -> x.move(0, 0, 2, -1, 1));
        ofLaden("move: all that it can be beyond", BEYOND, x -> x.move(0, MAX, 1, MAX, MAX));
        ofLaden("move: all below 0", BEYOND, x -> x.move(0, MIN, 1, MIN, MIN));
        ofLaden("move: i and n go round together", BEYOND, x -> x.move(0, 1, 1, 0, MAX));
        ofLaden("move: j and n go round together", BEYOND, x -> x.move(0, 0, 1, 1, MAX));
    }

    /** A FAULT is no ERROR: nothing is counted, THE TAPE is empty, all else stays. */
    private static void faulty(String name, int use, String text, int answer) {
        test(name, () -> {
            LooksServed x = Restaurants.laden();
            feed(x, text);
            int[] tolds = Restaurants.tolds(x);
            due("text", x.text(use), answer);
            due("the tape", x.count(6), 0);
            row("told", tolds, Restaurants.tolds(x));
            // Only a FAULT empties THE TAPE without another change; that of the other USE, to have two unlike ones.
            LooksServed y = Restaurants.laden();
            feed(y, "!");
            y.text(1 - use);
            due("all else is as it was", Restaurants.probe(x).equals(Restaurants.probe(y)) ? 1 : 0, 1);
        });
    }

    private static void faults() {
        faulty("text: a FAULT of the LOOKS", 0, "+f", -14);
        faulty("text: a FAULT of the BILL", 1, "+s", -14);
        faulty("text: it ends too early", 1, "*", -14);
    }

    public static void main(String[] args) {
        none();
        stateAndKind();
        fullOnes();
        beyondComesFirst();
        theOthersInTheirOrder();
        faults();
        finish("RefusalTest");
    }
}
