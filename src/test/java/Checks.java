import java.util.ArrayList;
import java.util.List;

/** What the tests by hand share: answers that are due, small restaurants, and the closing line. */
abstract class Checks {
    static final int MIN = Integer.MIN_VALUE;
    static final int MAX = Integer.MAX_VALUE;
    static final int BEYOND = -1000000001;
    static final int NONE = -1000000002;
    static final int STATE = -1000000003;
    static final int FULL = -1000000004;
    static final int KIND = -1000000005;

    private static final List<String> WRONG = new ArrayList<>();

    interface Test {
        void run();
    }

    static void due(String call, long got, long want) {
        if (got != want) WRONG.add(call + " answered " + got + ", due is " + want);
    }

    /** Every one of these answers must be the same. */
    static void all(String calls, long want, int... got) {
        for (int i = 0; i < got.length; i++) due(calls + " [" + i + "]", got[i], want);
    }

    static void row(String calls, int[] want, int... got) {
        due(calls + ", how many", got.length, want.length);
        for (int i = 0; i < Math.min(got.length, want.length); i++) due(calls + " [" + i + "]", got[i], want[i]);
    }

    static int[] of(int... v) {
        return v;
    }

    static int feed(LooksServed x, String text) {
        int fed = x.count(6);
        for (int i = 0; i < text.length(); i++) fed = x.feed(text.charAt(i), 1);
        return fed;
    }

    static int write(LooksServed x, int use, String text) {
        feed(x, text);
        return x.text(use);
    }

    /** Plain DINERS of HUNGER 40 whose LOOKS is 0, so that FACE is SHAM alone. */
    static LooksServed shammers(int... shams) {
        LooksServed x = new LooksServed();
        due("text 0", write(x, 0, "0"), 1);
        for (int sham : shams) x.diner(0, 40, sham);
        return x;
    }

    /** DINER 0, of HUNGER 60 and never filled, is served until the HUNGER of DINER 1 has grown past it. */
    static LooksServed waiting(int hunger) {
        LooksServed x = new LooksServed();
        write(x, 0, "h");
        for (int i = 0; i < 8; i++) x.fills(i, 0);
        x.diner(0, 60, 0);
        x.diner(0, hunger, 0);
        return x;
    }

    static int[] hungers(LooksServed x) {
        return ofAll(x, 2);
    }

    static int[] ofAll(LooksServed x, int what) {
        int[] all = new int[x.count(0)];
        for (int i = 0; i < all.length; i++) all[i] = x.ofDiner(i, what);
        return all;
    }

    static int[] trace(LooksServed x) {
        int[] all = new int[x.count(8)];
        for (int i = 0; i < all.length; i++) all[i] = x.trace(i);
        return all;
    }

    static int sheetOf(LooksServed x, int sheet, int bits, int... numbers) {
        int answer = x.sheet(sheet, bits, numbers.length);
        for (int i = 0; i < numbers.length; i++) x.put(sheet, i, numbers[i]);
        return answer;
    }

    private static int passed = 0;
    private static int failed = 0;

    static void test(String name, Test test) {
        WRONG.clear();
        try {
            test.run();
        } catch (RuntimeException | StackOverflowError e) {
            WRONG.add("threw " + e);
        }
        if (WRONG.isEmpty()) {
            passed++;
            return;
        }
        failed++;
        for (String wrong : WRONG) System.out.println(name + ": " + wrong);
    }

    /** The closing line that .ci/run adds up. */
    static void finish(String name) {
        System.out.println(name + ": " + passed + " passed, " + failed + " failed");
        if (failed > 0) System.exit(1);
    }
}
