import java.lang.reflect.Method;
import java.util.Random;

/** Runs of 512 calls, the program's answers held against the Model's; now and then, and at the end, all counts. */
public final class ModelTest {
    private static final int RUNS = 150;
    private static final int CALLS = 512;
    /** What sameCounts() calls at most: 10 counts, 5 told(), 7 of each of 8 DINERS. */
    private static final int COUNTS = 71;
    private static final int[] EDGES = {Integer.MIN_VALUE, Integer.MIN_VALUE + 1, -1000000001, -41, -2, -1, 0, 1, 2, 3,
        4, 5, 6, 7, 8, 9, 10, 16, 30, 31, 32, 40, 41, 60, 61, 69, 70, 99, 100, 128, 255, 256, 9999,
        Integer.MAX_VALUE - 1, Integer.MAX_VALUE};

    /** Each act, and the least and greatest of its arguments as they mostly come; -2 .. stands for diners. */
    private static final String[] ACTS = {"fills 0 7 0 30", "filling 0 7", "waiters 1 4", "diner 0 69 0 99 0 9",
        "ofDiner D 0 6", "change D C", "become D 0 69", "as D 0 6", "law 0 1 -5 120 -5 120 -5 120", "steps 1 12",
        "loose 1 9", "next", "then 0 60 D 0 2", "first D", "never", "sham D 1 60", "alike S 1 60", "whose 0 3 0 1",
        "rank D", "harm D 0 60", "cramps D 0 60", "enough 1 99 0 60", "meals 0 60", "odds D 0 60 0 1", "seed V",
        "voice D 0 3 V", "trace 0 9", "sheet 0 3 B 0 9", "put 0 3 0 9 N", "move 0 3 0 5 0 3 0 5 0 4", "shams 0 3",
        "judge 0 3", "image", "restore", "tell V", "check", "count 0 9", "told 1 5", "text 0 1"};

    private final Random random;
    private final LooksServed program = new LooksServed();
    private final Model model = new Model();
    private final StringBuilder log = new StringBuilder();
    private int calls = 0;
    private final boolean wild;

    private ModelTest(long seed) {
        random = new Random(seed);
        wild = seed % 5 == 0;
    }

    private int from(int low, int high) {
        return low + random.nextInt(high - low + 1);
    }

    private static Method named(Class<?> type, String name) {
        for (Method m : type.getDeclaredMethods()) if (m.getName().equals(name) && isFace(m)) return m;
        throw new IllegalStateException(name);
    }

    /** The Model has methods of its own beside the face, some of the same name. */
    private static boolean isFace(Method m) {
        if (m.getReturnType() != int.class || java.lang.reflect.Modifier.isPrivate(m.getModifiers())) return false;
        for (Class<?> p : m.getParameterTypes()) if (p != int.class && p != long.class) return false;
        return true;
    }

    private boolean same(String name, Object... args) {
        if (calls == CALLS - COUNTS) return true;
        calls++;
        StringBuilder call = new StringBuilder(name).append('(');
        for (Object a : args) call.append(a).append(' ');
        Object want;
        Object got;
        try {
            want = named(Model.class, name).invoke(model, args);
            got = named(LooksServed.class, name).invoke(program, args);
        } catch (ReflectiveOperationException e) {
            System.out.println(call + ") threw " + e.getCause());
            return false;
        }
        log.append(call).append(") = ").append(got).append('\n');
        if (want.equals(got)) return true;
        System.out.println(call + ") answered " + got + ", the model says " + want);
        return false;
    }

    private boolean sameCounts() {
        int diners = model.count(0);
        calls += 15 + 7 * diners;
        for (int i = 0; i < 10; i++) if (program.count(i) != model.count(i)) return differs("count", i);
        for (int k = 1; k <= 5; k++) if (program.told(k) != model.told(k)) return differs("told", k);
        for (int i = 0; i < diners; i++) {
            for (int what = 0; what < 7; what++) {
                if (program.ofDiner(i, what) != model.ofDiner(i, what)) return differs("ofDiner " + i, what);
            }
        }
        return true;
    }

    private boolean differs(String what, int i) {
        System.out.println(what + " " + i + " differs");
        return false;
    }

    private int number() {
        return random.nextInt(4) == 0 ? random.nextInt() : from(-60, 260);
    }

    private String text(int depth, String names) {
        int pick = random.nextInt(depth > 3 ? 4 : 9);
        if (pick < 2) return Integer.toString(random.nextInt(pick == 0 ? 12 : 1200));
        if (pick < 4) return String.valueOf(names.charAt(random.nextInt(3)));
        if (pick == 4) return "!" + text(depth + 1, names);
        if (pick == 5) return "(" + text(depth + 1, names) + ")";
        char sign = "|&<=>+-*/%".charAt(random.nextInt(10));
        return text(depth + 1, names) + sign + text(depth + 1, names);
    }

    /** Mostly a TEXT, sometimes spoilt by a byte. */
    private boolean feedAndText() {
        int use = random.nextInt(2);
        String names = use == 0 ? "hcs" : "hfc";
        StringBuilder t = new StringBuilder(text(0, names));
        if (use == 0 && random.nextInt(3) > 0) t.insert(0, "c+12-h/9+");
        if (use == 1 && random.nextInt(3) > 0) t = new StringBuilder("h>" + from(50, 98) + "&f<" + from(-9, 30));
        if (random.nextInt(4) == 0) {
            String bytes = "()!|&<=>+-*/%hcsf0129 \u0000\u00ff";
            t.setCharAt(random.nextInt(t.length()), bytes.charAt(random.nextInt(bytes.length())));
        }
        for (int i = 0; i < t.length(); i += 8) {
            long word = random.nextLong();
            int n = Math.min(8, t.length() - i);
            for (int k = n - 1; k >= 0; k--) word = word << 8 | t.charAt(i + k);
            if (!same("feed", word, n)) return false;
        }
        return same("text", use);
    }

    /** A SHEET told rightly for some STEPS, so that whose() and judge() have something to find. */
    private boolean fillSheet() {
        int sheet = random.nextInt(4);
        boolean faces = random.nextBoolean();
        int n = faces ? model.count(0) : from(0, 9);
        if (!same("sheet", sheet, new int[] {8, 16, 32}[random.nextInt(3)], n)) return false;
        Model ahead = model.copy();
        if (random.nextBoolean()) ahead.waiters = from(1, 4);
        for (int i = 0; i < n; i++) {
            int v = faces ? model.ofDiner(i, 6) : ahead.goStep();
            if (random.nextInt(12) == 0) v = number();
            if (!same("put", sheet, i, v)) return false;
        }
        return faces ? same("judge", sheet) : same("whose", sheet, 0) && same("whose", sheet, 1);
    }

    private boolean tellAndCheck() {
        Model ahead = model.copy();
        int n = from(1, 20);
        for (int i = 0; i < n; i++) {
            ahead.goStep();
            if (!same("tell", ahead.hungers() + (random.nextInt(15) == 0 ? 1 : 0))) return false;
        }
        return same("check");
    }

    private int argument(String[] parts, int[] at) {
        int diners = model.count(0);
        String part = parts[at[0]++];
        switch (part) {
            case "D": return diners == 0 ? from(-1, 1) : from(0, diners - 1);
            case "S": return from(0, (1 << diners) - 1);
            case "B": return new int[] {0, 8, 8, 16, 16, 32, 32}[random.nextInt(7)];
            case "N": return random.nextInt(3) == 0 ? number() : from(0, 11);
            case "V": return number();
            default: return from(Integer.parseInt(part), Integer.parseInt(parts[at[0]++]));
        }
    }

    private boolean act() {
        String[] parts = ACTS[random.nextInt(ACTS.length)].split(" ");
        Method m = named(LooksServed.class, parts[0]);
        Object[] args = new Object[m.getParameterCount()];
        if (parts[0].equals("change")) {
            int what = random.nextInt(4);
            args = new Object[] {argument(new String[] {"D"}, new int[1]), what, from(0, new int[] {99, 9, 99, 1}[what])};
        } else {
            int[] at = {1};
            for (int i = 0; i < args.length; i++) args[i] = argument(parts, at);
        }
        int odd = random.nextInt(wild ? 3 : 25);
        if (odd == 0 && args.length > 0) args[random.nextInt(args.length)] = EDGES[random.nextInt(EDGES.length)];
        if (parts[0].equals("change") && args[1].equals(3) && random.nextInt(3) > 0) args[2] = 0;
        return same(parts[0], args);
    }

    private boolean oneCall(int i) {
        if (i < 12 && random.nextInt(3) > 0) return same("diner", from(0, 69), from(0, 99), from(0, 9));
        switch (random.nextInt(40)) {
            case 0: return feedAndText();
            case 1: return fillSheet();
            case 2: return random.nextInt(3) > 0 || tellAndCheck();
            case 3: return same("feed", random.nextLong(), wild ? from(-1, 10) : from(1, 8));
            default: return act();
        }
    }

    private boolean run() {
        for (int i = 0; calls < CALLS - COUNTS; i++) {
            if (!oneCall(i)) return false;
            boolean isRoom = calls <= CALLS - 2 * COUNTS;
            if (isRoom && random.nextInt(20) == 0 && !sameCounts()) return false;
        }
        return sameCounts();
    }

    public static void main(String[] args) {
        int passed = 0;
        int runs = args.length > 0 ? Integer.parseInt(args[0]) : RUNS;
        for (int seed = 1; seed <= runs; seed++) {
            ModelTest test = new ModelTest(seed);
            if (test.run()) {
                passed++;
            } else {
                System.out.println("run " + seed + " ended so:\n" + test.log.substring(Math.max(0, test.log.length() - 800)));
            }
        }
        System.out.println("ModelTest: " + passed + " passed, " + (runs - passed) + " failed");
        if (passed < runs) System.exit(1);
    }
}
