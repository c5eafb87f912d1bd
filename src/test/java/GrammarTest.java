import java.util.ArrayList;
import java.util.List;
import java.util.Random;

/**
 * FAULTS and worths from their definition alone: the rules T, A, B, S, P, Q are followed in every way at once, and
 * a byte is at fault when no way that took all bytes ahead of it takes it. Every row of up to five bytes over the
 * signs that matter, rows behind four that are open already, and seeded longer ones are held against the program.
 */
public final class GrammarTest extends Checks {
    private static final String SIGNS = "1h!()+<|";
    private static final int LONGEST = 5;
    private static final int BATCHES = 20;
    private static final int BATCH = 1000;
    private static final int TAPE = 50;
    private static final int[][] WORDS = {{7, 3, 11}, {0, -5, 2}, {Integer.MAX_VALUE, 90, 0}, {Integer.MIN_VALUE, 1, 15}};

    /** Where one way through a rule ends, and what it is worth. */
    private record Way(int end, int worth) {
    }

    private static final class Ways {
        private final String text;
        private final String names;
        private final int[] words;
        /** A way took every byte and would take one more. */
        boolean goesOn = false;

        Ways(String text, String names, int[] words) {
            this.text = text;
            this.names = names;
            this.words = words;
        }

        private boolean comes(int place, String signs) {
            if (place == text.length()) {
                goesOn = true;
                return false;
            }
            return signs.indexOf(text.charAt(place)) >= 0;
        }

        List<Way> t(int place, int open) { return row(0, place, open); }

        /** A rule of the form X: Y { sign Y }, by its number: T 0, A 1, S 3, P 4. */
        private List<Way> row(int rule, int place, int open) {
            String signs = new String[] {"|", "&", "", "+-", "*/%"}[rule];
            List<Way> ways = next(rule, place, open);
            for (int i = 0; i < ways.size(); i++) {
                Way way = ways.get(i);
                if (comes(way.end, signs)) join(way, next(rule, way.end + 1, open), ways);
            }
            return ways;
        }

        private List<Way> next(int rule, int place, int open) {
            return rule == 1 ? b(place, open) : rule == 4 ? q(place, open) : row(rule + 1, place, open);
        }

        private List<Way> b(int place, int open) {
            List<Way> firsts = row(3, place, open);
            List<Way> ways = new ArrayList<>(firsts);
            for (Way first : firsts) if (comes(first.end, "<=>")) join(first, row(3, first.end + 1, open), ways);
            return ways;
        }

        private void join(Way left, List<Way> rights, List<Way> ways) {
            for (Way right : rights) {
                ways.add(new Way(right.end, by(text.charAt(left.end), left.worth, right.worth)));
            }
        }

        private List<Way> q(int place, int open) {
            List<Way> ways = new ArrayList<>();
            for (int digits = 1; digits <= 4 && comes(place + digits - 1, "0123456789"); digits++) {
                ways.add(new Way(place + digits, Integer.parseInt(text.substring(place, place + digits))));
            }
            if (comes(place, names)) ways.add(new Way(place + 1, words[names.indexOf(text.charAt(place))]));
            if (open < 5 && comes(place, "!")) {
                for (Way way : q(place + 1, open + 1)) ways.add(new Way(way.end, way.worth == 0 ? 1 : 0));
            }
            if (open < 5 && comes(place, "(")) {
                for (Way way : t(place + 1, open + 1)) if (comes(way.end, ")")) ways.add(new Way(way.end + 1, way.worth));
            }
            return ways;
        }

        private static int by(char sign, int p, int q) {
            switch (sign) {
                case '|': return p == 0 && q == 0 ? 0 : 1;
                case '&': return p == 0 || q == 0 ? 0 : 1;
                case '<': return q > p ? 1 : 0;
                case '=': return p == q ? 1 : 0;
                case '>': return q < p ? 1 : 0;
                case '+': return p + q;
                case '-': return p - q;
                case '*': return p * q;
                case '/': return q == 0 ? 0 : (int) ((long) p / q);
                default: return q == 0 ? 0 : (int) ((long) p % q);
            }
        }
    }

    private static boolean canGoOn(String start, String names) {
        Ways ways = new Ways(start, names, WORDS[0]);
        ways.t(0, 0);
        return ways.goesOn;
    }

    /** What text() must answer. */
    private static int answer(String text, String names) {
        for (Way way : new Ways(text, names, WORDS[0]).t(0, 0)) if (way.end == text.length()) return 1;
        int place = 0;
        while (place < text.length() && canGoOn(text.substring(0, place + 1), names)) place++;
        return -10 - place;
    }

    private static void holdWorth(LooksServed x, int use, String text, String names) {
        for (int[] w : WORDS) {
            int wholes = 0;
            for (Way way : new Ways(text, names, w).t(0, 0)) {
                if (way.end < text.length()) continue;
                wholes++;
                int want = Math.max(0, Math.min(use == 0 ? 99 : 1, way.worth));
                due("law of '" + text + "', USE " + use + ", by " + w[0], x.law(use, w[0], w[1], w[2]), want);
            }
            due("ways through '" + text + "'", wholes, 1);
        }
    }

    private static void hold(int use, String text) {
        String names = use == 0 ? "hcs" : "hfc";
        LooksServed x = new LooksServed();
        feed(x, text);
        int want = answer(text, names);
        due("text of '" + text + "', USE " + use, x.text(use), want);
        if (want == 1) holdWorth(x, use, text, names);
    }

    private static void holdAll(String start, int more) {
        if (more == 0) {
            hold(0, start);
            return;
        }
        for (char sign : SIGNS.toCharArray()) holdAll(start + sign, more - 1);
    }

    private static String text(Random random, int depth, String names) {
        int pick = random.nextInt(depth > 3 ? 4 : 9);
        if (pick < 2) return Integer.toString(random.nextInt(pick == 0 ? 12 : 12000));
        if (pick < 4) return String.valueOf(names.charAt(random.nextInt(3)));
        if (pick == 4) return "!" + text(random, depth + 1, names);
        if (pick == 5) return "(" + text(random, depth + 1, names) + ")";
        String sign = String.valueOf("|&<=>+-*/%".charAt(random.nextInt(10)));
        return text(random, depth + 1, names) + sign + text(random, depth + 1, names);
    }

    /** Two of three are spoilt by a byte or two. */
    private static void holdOne(Random random) {
        int use = random.nextInt(2);
        StringBuilder text = new StringBuilder(text(random, 0, use == 0 ? "hcs" : "hfc"));
        String bytes = "()!|&<=>+-*/%hcsf0129 \u0000\u00ff";
        for (int i = random.nextInt(3); i > 0; i--) {
            int place = random.nextInt(text.length() + 1);
            int end = Math.min(text.length(), place + random.nextInt(2));
            text.replace(place, end, String.valueOf(bytes.charAt(random.nextInt(bytes.length()))));
        }
        if (text.length() <= TAPE) hold(use, text.toString());
    }

    public static void main(String[] args) {
        for (int i = 0; i <= LONGEST; i++) {
            int bytes = i;
            test("11, 12: every row of " + bytes + " bytes", () -> holdAll("", bytes));
        }
        for (String start : new String[] {"((((", "!!!!", "(!(!", "!(!(", "(1)+((((", "!h*!!!!"}) {
            test("11, 12: every row of 4 bytes behind " + start, () -> holdAll(start, 4));
        }
        for (int i = 1; i <= BATCHES; i++) {
            int seed = i;
            test("11, 12: longer rows, seed " + seed, () -> {
                Random random = new Random(seed);
                for (int k = 0; k < BATCH; k++) holdOne(random);
            });
        }
        finish("GrammarTest");
    }
}
