import java.util.ArrayDeque;
import java.util.ArrayList;
import java.util.Arrays;
import java.util.Deque;
import java.util.List;

/**
 * The document once more, written apart from the program and in another way (kinds as classes, texts by
 * two stacks, every question by its own full run), so that a slip in one shows against the other.
 */
final class Model {
    static final int LOW = -1000000000;

    static class Diner {
        int n, m, hunger, sham, had;
        boolean gone;
        Model at;
        List<Integer> trace;

        int face(int v) { return v + sham; }
        int grows() { return 1; }
        int looks(int x) { trace.add(10); return x + n; }
        int eats(int x) { trace.add(11); return looks(x) * 2; }
        int waits(int x) { trace.add(12); return x - m; }
        int tells(int x) { trace.add(13); int e = eats(x); return e ^ waits(x); }

        Diner as(Diner other) {
            n = other.n; m = other.m; hunger = other.hunger; sham = other.sham; had = other.had;
            gone = other.gone; at = other.at;
            return this;
        }

        int faceNow() { return face(at.lawOf(0, hunger, had, (int) (at.step % 16))); }
    }

    static class Priest extends Diner {
        int face(int v) { return super.face(v) + m; }
        int grows() { return 0; }
        int looks(int x) { trace.add(20); return super.looks(x) * 3; }
    }

    static class Critic extends Diner {
        int face(int v) { return super.face(v / 2); }
        int grows() { return 2; }
        int eats(int x) { trace.add(30); int e = super.eats(x); return e - waits(1); }
    }

    static class Child extends Diner {
        int face(int v) { return super.face(v) - hunger / 2; }
        int grows() { return 1 + m % 3; }
        int waits(int x) { trace.add(40); return -super.waits(x); }
    }

    static class Mourner extends Priest {
        int face(int v) { return super.face(v) - 20; }
        int tells(int x) { trace.add(50); int t = super.tells(x); return t - looks(2); }
    }

    static class Couple extends Critic {
        int face(int v) { return super.face(v) + (had > 0 ? 9 : 0); }
        int eats(int x) { trace.add(60); return super.eats(x + 1); }
    }

    static class Cook extends Child {
        int face(int v) { return super.face(v) + sham; }
        int waits(int x) { trace.add(70); return super.waits(x) ^ n; }
        int tells(int x) { trace.add(71); int e = eats(x); return e - super.tells(x); }
    }

    static final Class<?>[] KINDS = {Diner.class, Priest.class, Critic.class, Child.class, Mourner.class,
        Couple.class, Cook.class};

    static Diner ofKind(int kind) {
        switch (kind) {
            case 0: return new Diner();
            case 1: return new Priest();
            case 2: return new Critic();
            case 3: return new Child();
            case 4: return new Mourner();
            case 5: return new Couple();
            default: return new Cook();
        }
    }

    static int kindOf(Diner d) { return Arrays.asList(KINDS).indexOf(d.getClass()); }

    int[] fills = {5, 5, 5, 5, 5, 5, 5, 5};
    int waiters = 1;
    long step = 0;
    List<Diner> diners = new ArrayList<>();
    String[] texts = new String[2];
    String tape = "";
    List<Integer> waiting = new ArrayList<>();
    int z = 1;
    List<Integer> trace = new ArrayList<>();
    long[][] sheets = new long[4][];
    int[] bits = new int[4];
    Model image;
    int images;
    int[] told = new int[6];

    Model copy() {
        Model c = new Model();
        c.take(this);
        return c;
    }

    private void take(Model o) {
        fills = o.fills.clone();
        waiters = o.waiters;
        step = o.step;
        diners = new ArrayList<>();
        for (Diner d : o.diners) {
            Diner e = ofKind(kindOf(d)).as(d);
            e.at = this;
            diners.add(e);
        }
        texts = o.texts.clone();
        tape = o.tape;
        waiting = new ArrayList<>(o.waiting);
        z = o.z;
    }

    static int clamp(int v, int low, int high) { return Math.max(low, Math.min(high, v)); }

    static String names(int use) { return use == 0 ? "hcs" : "hfc"; }

    int lawOf(int use, int a, int b, int c) {
        String t = texts[use] == null ? (use == 0 ? "c+9-h/9" : "0") : texts[use];
        return clamp(value(t, names(use), a, b, c), 0, use == 0 ? 99 : 1);
    }

    /** The fault's place, or -1; a scanner without recursion. */
    static int fault(String t, String names) {
        Deque<Character> open = new ArrayDeque<>();
        Deque<Boolean> compared = new ArrayDeque<>();
        compared.push(false);
        boolean operand = true;
        int digits = 0;
        for (int i = 0; i < t.length(); i++) {
            char b = t.charAt(i);
            if (operand) {
                if (b == '!' || b == '(') {
                    if (open.size() == 5) return i;
                    open.push(b);
                    if (b == '(') compared.push(false);
                    continue;
                }
                if (b >= '0' && b <= '9') digits = 1;
                else if (names.indexOf(b) >= 0) digits = 0;
                else return i;
                operand = false;
            } else if (digits > 0 && digits < 4 && b >= '0' && b <= '9') {
                digits++;
            } else {
                digits = 0;
                while (!open.isEmpty() && open.peek() == '!') open.pop();
                if (b == ')') {
                    if (open.isEmpty()) return i;
                    open.pop();
                    compared.pop();
                } else if (b == '|' || b == '&') {
                    compared.pop();
                    compared.push(false);
                    operand = true;
                } else if (b == '<' || b == '=' || b == '>') {
                    if (compared.pop()) return i;
                    compared.push(true);
                    operand = true;
                } else if (b == '+' || b == '-' || b == '*' || b == '/' || b == '%') {
                    operand = true;
                } else {
                    return i;
                }
            }
        }
        return operand || open.contains('(') ? t.length() : -1;
    }

    private static int rankOf(char sign) {
        switch (sign) {
            case '|': return 1;
            case '&': return 2;
            case '<': case '=': case '>': return 3;
            case '+': case '-': return 4;
            case '*': case '/': case '%': return 5;
            case '!': return 6;
            default: return 0;
        }
    }

    /** What a faultless text is worth, by two stacks. */
    static int value(String t, String names, int a, int b, int c) {
        Deque<Integer> worths = new ArrayDeque<>();
        Deque<Character> signs = new ArrayDeque<>();
        int i = 0;
        while (i < t.length()) {
            char s = t.charAt(i);
            if (Character.isDigit(s)) {
                int j = i;
                while (j < t.length() && Character.isDigit(t.charAt(j))) j++;
                worths.push(Integer.parseInt(t.substring(i, j)));
                i = j;
                continue;
            }
            int name = names.indexOf(s);
            if (name >= 0) worths.push(name == 0 ? a : name == 1 ? b : c);
            else if (s == '(' || s == '!') signs.push(s);
            else if (s == ')') {
                while (signs.peek() != '(') reduce(worths, signs.pop());
                signs.pop();
            } else {
                while (!signs.isEmpty() && rankOf(signs.peek()) >= rankOf(s)) reduce(worths, signs.pop());
                signs.push(s);
            }
            i++;
        }
        while (!signs.isEmpty()) reduce(worths, signs.pop());
        return worths.pop();
    }

    private static void reduce(Deque<Integer> worths, char sign) {
        int q = worths.pop();
        if (sign == '!') {
            worths.push(q == 0 ? 1 : 0);
            return;
        }
        int p = worths.pop();
        switch (sign) {
            case '|': worths.push(p != 0 | q != 0 ? 1 : 0); return;
            case '&': worths.push(p != 0 & q != 0 ? 1 : 0); return;
            case '<': worths.push(p < q ? 1 : 0); return;
            case '=': worths.push(p == q ? 1 : 0); return;
            case '>': worths.push(p > q ? 1 : 0); return;
            case '+': worths.push(p + q); return;
            case '-': worths.push(p - q); return;
            case '*': worths.push(p * q); return;
            case '/': worths.push(q == 0 ? 0 : p / q); return;
            default: worths.push(q == 0 ? 0 : p % q);
        }
    }

    List<Diner> ranked() {
        List<Diner> row = new ArrayList<>();
        for (Diner d : diners) if (!d.gone) row.add(d);
        row.sort((p, q) -> q.faceNow() != p.faceNow() ? q.faceNow() - p.faceNow() : p.n - q.n);
        return row;
    }

    int servedNow() {
        int set = 0;
        List<Diner> row = ranked();
        for (int i = 0; i < row.size() && i < waiters; i++) set |= 1 << row.get(i).n;
        return set;
    }

    int goStep() {
        int set = servedNow();
        for (Diner d : diners) {
            if (d.gone) continue;
            if ((set >> d.n & 1) == 1) {
                d.hunger = clamp(d.hunger - fills[d.had % 8], 0, 99);
                d.had = clamp(d.had + 1, 0, 99);
            } else {
                d.hunger = clamp(d.hunger + d.grows(), 0, 99);
            }
            if (lawOf(1, d.hunger, d.faceNow(), d.had) != 0) d.gone = true;
        }
        step++;
        return set;
    }

    Model behind(int n) {
        Model c = copy();
        for (int i = 0; i < n; i++) c.goStep();
        return c;
    }

    boolean hasMore(int d, Model later) { return later.diners.get(d).had > diners.get(d).had; }

    int hungers() {
        int sum = 0;
        for (Diner d : diners) sum += d.hunger;
        return sum;
    }

    int hads() {
        int sum = 0;
        for (Diner d : diners) sum += d.had;
        return sum;
    }

    int err(int k) { told[k]++; return LOW - k; }

    boolean noDiner(int d) { return d < 0 || d >= diners.size(); }

    static boolean out(int v, int low, int high) { return v < low || v > high; }

    int fills(int course, int v) {
        if (out(course, 0, 7) || out(v, 0, 30)) return err(1);
        int was = fills[course];
        fills[course] = v;
        return was;
    }

    int filling(int course) { return out(course, 0, 7) ? err(1) : fills[course]; }

    int waiters(int n) {
        if (out(n, 1, 4)) return err(1);
        int was = waiters;
        waiters = n;
        return was;
    }

    int diner(int km, int hunger, int sham) {
        if (out(km, 0, 69) || out(hunger, 0, 99) || out(sham, 0, 9)) return err(1);
        if (diners.size() == 8) return err(4);
        Diner d = ofKind(km / 10);
        d.at = this;
        d.n = diners.size();
        d.m = km % 10;
        d.hunger = hunger;
        d.sham = sham;
        diners.add(d);
        return d.n;
    }

    int ofDiner(int diner, int what) {
        if (noDiner(diner) || out(what, 0, 6)) return err(1);
        Diner d = diners.get(diner);
        return new int[] {kindOf(d), d.m, d.hunger, d.sham, d.had, d.gone ? 1 : 0, d.faceNow()}[what];
    }

    int change(int diner, int what, int v) {
        if (noDiner(diner) || out(what, 0, 3) || out(v, 0, new int[] {99, 9, 99, 1}[what])) return err(1);
        Diner d = diners.get(diner);
        int was = new int[] {d.hunger, d.sham, d.had, d.gone ? 1 : 0}[what];
        if (what == 0) d.hunger = v;
        if (what == 1) d.sham = v;
        if (what == 2) d.had = v;
        if (what == 3) d.gone = v == 1;
        return was;
    }

    int become(int diner, int km) {
        if (noDiner(diner) || out(km, 0, 69)) return err(1);
        Diner d = diners.get(diner);
        Diner e = ofKind(km / 10).as(d);
        e.m = km % 10;
        diners.set(diner, e);
        return kindOf(d);
    }

    int as(int diner, int kind) {
        if (noDiner(diner) || out(kind, 0, 6)) return err(1);
        return KINDS[kind].isInstance(diners.get(diner)) ? diners.get(diner).m : err(5);
    }

    int feed(long word, int n) {
        if (out(n, 1, 8)) return err(1);
        if (tape.length() + n > 50) return err(4);
        for (int i = 0; i < n; i++) {
            tape += (char) (word & 255);
            word >>= 8;
        }
        return tape.length();
    }

    int text(int use) {
        if (out(use, 0, 1)) return err(1);
        String t = tape;
        tape = "";
        int f = fault(t, names(use));
        if (f >= 0) return -10 - f;
        texts[use] = t;
        return 1;
    }

    int law(int use, int a, int b, int c) { return out(use, 0, 1) ? err(1) : lawOf(use, a, b, c); }

    int steps(int n) {
        if (out(n, 1, 60)) return err(1);
        if (step + n > 9999) return err(3);
        for (int i = 0; i < n; i++) goStep();
        return hungers();
    }

    int loose(int n) {
        if (out(n, 1, 40)) return err(1);
        if (step + n > 9999) return err(3);
        for (int i = 0; i < n; i++) {
            z = z * 1103515245 + 12345;
            int draw = z >>> 8;
            if (!diners.isEmpty()) diners.get(draw % diners.size()).sham = draw / 8 % 10;
            goStep();
        }
        return hungers();
    }

    int next() { return servedNow(); }

    int then(int n, int diner, int what) {
        if (out(n, 0, 60) || noDiner(diner) || out(what, 0, 2)) return err(1);
        Diner d = behind(n).diners.get(diner);
        return what == 0 ? d.hunger : what == 1 ? d.had : d.gone ? 1 : 0;
    }

    int first(int diner) {
        if (noDiner(diner)) return err(1);
        for (int n = 1; n <= 60; n++) if (hasMore(diner, behind(n))) return n;
        return err(2);
    }

    int never() {
        Model later = behind(60);
        int set = 0;
        for (Diner d : diners) if (!hasMore(d.n, later)) set |= 1 << d.n;
        return set;
    }

    private boolean fedWith(int set, int s, int n) {
        Model c = copy();
        for (Diner d : c.diners) if ((set >> d.n & 1) == 1) d.sham = s;
        Model later = c.behind(n);
        for (Diner d : diners) if ((set >> d.n & 1) == 1 && !hasMore(d.n, later)) return false;
        return true;
    }

    int sham(int diner, int n) {
        if (noDiner(diner) || out(n, 1, 60)) return err(1);
        for (int s = 0; s < 10; s++) if (fedWith(1 << diner, s, n)) return s;
        return err(2);
    }

    int alike(int set, int n) {
        if (out(set, 0, (1 << diners.size()) - 1) || out(n, 1, 60)) return err(1);
        for (int s = 0; s < 10; s++) if (fedWith(set, s, n)) return s;
        return err(2);
    }

    private boolean told(int sheet, int i, long v) {
        long all = 1L << bits[sheet];
        return Math.floorMod(sheets[sheet][i], all) == Math.floorMod(v, all);
    }

    private int prefix(int sheet, int w) {
        Model c = copy();
        c.waiters = w;
        int i = 0;
        while (i < sheets[sheet].length && told(sheet, i, c.goStep())) i++;
        return i;
    }

    int whose(int sheet, int what) {
        if (out(sheet, 0, 3) || out(what, 0, 1)) return err(1);
        if (sheets[sheet] == null) return err(2);
        if (what == 1) return prefix(sheet, waiters);
        int set = 0;
        for (int w = 1; w <= 4; w++) if (prefix(sheet, w) == sheets[sheet].length) set += 1 << w;
        return set;
    }

    int rank(int diner) {
        if (noDiner(diner)) return err(1);
        if (diners.get(diner).gone) return err(3);
        return ranked().indexOf(diners.get(diner));
    }

    int harm(int diner, int n) {
        if (noDiner(diner) || out(n, 0, 60)) return err(1);
        Model later = behind(n);
        Model c = copy();
        c.diners.get(diner).sham = 0;
        Model other = c.behind(n);
        int set = 0;
        for (Diner d : diners) {
            if (d.n != diner && other.diners.get(d.n).had > later.diners.get(d.n).had) set |= 1 << d.n;
        }
        return set;
    }

    int cramps(int diner, int n) {
        if (noDiner(diner) || out(n, 0, 60)) return err(1);
        int many = 0;
        for (int i = 1; i <= n; i++) if (behind(i).diners.get(diner).hunger >= 50) many++;
        return many;
    }

    int enough(int v, int n) {
        if (out(v, 1, 99) || out(n, 0, 60)) return err(1);
        for (int w = 1; w <= 4; w++) {
            Model c = copy();
            c.waiters = w;
            if (c.behind(n).diners.stream().noneMatch(d -> d.hunger >= v)) return w;
        }
        return err(2);
    }

    int meals(int n) { return out(n, 0, 60) ? err(1) : behind(n).hads() - hads(); }

    int odds(int diner, int n, int part) {
        if (noDiner(diner) || out(n, 0, 60) || out(part, 0, 1)) return err(1);
        int k = 0;
        for (int s = 0; s < 10; s++) if (fedWith(1 << diner, s, n)) k++;
        int[] above = {0, 1, 1, 3, 2, 1, 3, 7, 4, 9, 1};
        int[] below = {1, 10, 5, 10, 5, 2, 5, 10, 5, 10, 1};
        return part == 0 ? above[k] : below[k];
    }

    int seed(int v) {
        int was = z;
        z = v;
        return was;
    }

    int voice(int diner, int act, int x) {
        if (noDiner(diner) || out(act, 0, 3)) return err(1);
        Diner d = diners.get(diner);
        trace = d.trace = new ArrayList<>();
        return act == 0 ? d.looks(x) : act == 1 ? d.eats(x) : act == 2 ? d.waits(x) : d.tells(x);
    }

    int trace(int i) { return out(i, 0, Math.min(40, trace.size()) - 1) ? err(2) : trace.get(i); }

    int sheet(int sheet, int b, int n) {
        if (out(sheet, 0, 3) || !Arrays.asList(0, 8, 16, 32).contains(b)) return err(1);
        if (b == 0) {
            sheets[sheet] = null;
            return 1;
        }
        if (n < 0) return err(3);
        if (n > 40) return err(1);
        sheets[sheet] = new long[n];
        bits[sheet] = b;
        return 1;
    }

    int put(int sheet, int i, int v) {
        if (out(sheet, 0, 3)) return err(1);
        if (sheets[sheet] == null) return err(2);
        if (out(i, 0, sheets[sheet].length - 1)) return err(1);
        sheets[sheet][i] = Math.floorMod((long) v, 1L << bits[sheet]);
        return 1;
    }

    int move(int sheet, int i, int other, int j, int n) {
        if (out(sheet, 0, 3) || out(other, 0, 3)) return err(1);
        if (sheets[sheet] == null || sheets[other] == null) return err(2);
        if (bits[sheet] != bits[other]) return err(5);
        if (n < 0 || i < 0 || j < 0) return err(1);
        if ((long) i + n > sheets[sheet].length || (long) j + n > sheets[other].length) return err(1);
        long[] were = Arrays.copyOfRange(sheets[sheet], i, i + n);
        for (int k = 0; k < n; k++) sheets[other][j + k] = were[k];
        return n;
    }

    int shams(int sheet) {
        if (out(sheet, 0, 3)) return err(1);
        if (sheets[sheet] == null) return err(2);
        int i = 0;
        for (long v : sheets[sheet]) {
            if (i == diners.size() || v < 0 || v > 9) break;
            diners.get(i++).sham = (int) v;
        }
        return i;
    }

    int judge(int sheet) {
        if (out(sheet, 0, 3)) return err(1);
        if (sheets[sheet] == null) return err(2);
        for (int i = 0; i < 50; i++) {
            boolean isNumber = i < sheets[sheet].length;
            boolean isDiner = i < diners.size();
            if (!isNumber && !isDiner) return -1;
            if (isNumber != isDiner || !told(sheet, i, diners.get(i).faceNow())) return i;
        }
        throw new IllegalStateException();
    }

    int image() {
        image = copy();
        return ++images;
    }

    int restore() {
        if (image == null) return err(2);
        take(image);
        return (int) step;
    }

    int tell(int v) {
        if (waiting.size() == 20) return err(4);
        waiting.add(v);
        return waiting.size();
    }

    int check() {
        List<Integer> told = waiting;
        waiting = new ArrayList<>();
        for (int i = 0; i < told.size(); i++) if (behind(i + 1).hungers() != told.get(i)) return 1 + i;
        return 0;
    }

    int count(int what) {
        if (out(what, 0, 9)) return err(1);
        int gone = 0;
        for (Diner d : diners) if (d.gone) gone++;
        return new int[] {diners.size(), waiters, (int) step, hungers(), hads(), gone, tape.length(),
            waiting.size(), Math.min(40, trace.size()), z}[what];
    }

    int told(int k) { return out(k, 1, 5) ? err(1) : told[k]; }
}
