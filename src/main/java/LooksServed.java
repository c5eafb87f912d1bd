import java.util.Arrays;

/** A restaurant whose waiters serve whoever looks served; ../shared/DOC.md tells what it promises. */
public final class LooksServed {
    private static final int LOW = -1000000000;
    private static final int BEYOND = 1;
    private static final int NONE = 2;
    private static final int STATE = 3;
    private static final int FULL = 4;
    private static final int KIND = 5;
    private static final int ERRORS = 5;

    private static final int COURSES = 8;
    private static final int MOST_FILLING = 30;
    private static final int MOST_WAITERS = 4;
    private static final int MOST_DINERS = 8;
    private static final int MOST_HUNGER = 99;
    private static final int MOST_SHAM = 9;
    private static final int SHAMS = 10;
    private static final int MOST_HAD = 99;
    private static final int LAST_STEP = 9999;
    private static final int MOST_STEPS = 60;
    private static final int MOST_DRAWS = 40;
    private static final int CRAMPING = 50;
    private static final int WORD_BYTES = 8;
    private static final int TAPE = 50;
    private static final int NO_TEXT = -10;
    private static final int MOST_WAITING = 20;
    private static final int SHEETS = 4;
    private static final int SHEET_NUMBERS = 40;
    private static final int TRACE = 40;

    private static final int KINDS = 7;
    private static final int DINER = 0;
    private static final int PRIEST = 1;
    private static final int CRITIC = 2;
    private static final int CHILD = 3;
    private static final int MOURNER = 4;
    private static final int COUPLE = 5;
    private static final int COOK = 6;
    private static final int MOST_KM = 69;
    /** The KIND above each KIND; -1 stands above DINER. */
    private static final int[] ABOVE = {-1, DINER, DINER, DINER, PRIEST, CRITIC, CHILD};

    private static final int ACTS = 4;
    private static final int LOOKS = 0;
    private static final int EATS = 1;
    private static final int WAITS = 2;
    private static final int TELLS = 3;
    /** The BODIES of each KIND, by acts; 0 where it has none of its own. */
    private static final int[] BODIES = {
        10, 11, 12, 13,
        20, 0, 0, 0,
        0, 30, 0, 0,
        0, 0, 40, 0,
        0, 0, 0, 50,
        0, 60, 0, 0,
        0, 0, 70, 71};
    /** The longest chain of BODIES is below ten; this only keeps a slip from going on for ever. */
    private static final int DEEPEST = 30;

    /** A code from here on is a number in a LAW; below stand signs, and below NAMES the names. */
    private static final int NUMBERS = 1000;
    private static final int NAMES = 3;
    private static final String LOOKS_NAMES = "hcs";
    private static final String BILL_NAMES = "hfc";
    private static final int MOST_DIGITS = 4;
    private static final int MOST_OPEN = 5;
    private static final int LEVEL_B = 2;
    private static final int LEVEL_Q = 5;

    private final Table now = new Table();
    /** Two tables to think on, made once, so that no question makes anything. */
    private final Table thought = new Table();
    private final Table honest = new Table();
    private final Table tableKept = new Table();
    private final Desk desk = new Desk();
    private final Desk deskKept = new Desk();
    private int images = 0;
    private final Reader reader = new Reader(desk.tape);
    private final Voices voices = new Voices();
    private final Sheet[] sheets = {new Sheet(), new Sheet(), new Sheet(), new Sheet()};
    private final int[] errors = new int[ERRORS + 1];

    public LooksServed() {
    }

    // ---- courses, waiters, diners

    public int fills(int course, int v) {
        if (!within(course, COURSES - 1) || !within(v, MOST_FILLING)) {
            return error(BEYOND);
        }
        int before = now.fill[course];
        now.fill[course] = v;
        return before;
    }

    public int filling(int course) {
        if (!within(course, COURSES - 1)) {
            return error(BEYOND);
        }
        return now.fill[course];
    }

    public int waiters(int n) {
        if (n < 1 || n > MOST_WAITERS) {
            return error(BEYOND);
        }
        int before = now.waiters;
        now.waiters = n;
        return before;
    }

    public int diner(int km, int hunger, int sham) {
        if (!within(km, MOST_KM) || !within(hunger, MOST_HUNGER) || !within(sham, MOST_SHAM)) {
            return error(BEYOND);
        }
        if (now.diners >= MOST_DINERS) {
            return error(FULL);
        }
        int diner = now.diners;
        now.kind[diner] = km / 10;
        now.m[diner] = km % 10;
        now.hunger[diner] = hunger;
        now.sham[diner] = sham;
        now.had[diner] = 0;
        now.gone[diner] = false;
        now.diners = diner + 1;
        return diner;
    }

    public int ofDiner(int diner, int what) {
        if (!isDiner(diner)) {
            return error(BEYOND);
        }
        switch (what) {
            case 0: return now.kind[diner];
            case 1: return now.m[diner];
            case 2: return now.hunger[diner];
            case 3: return now.sham[diner];
            case 4: return now.had[diner];
            case 5: return now.gone[diner] ? 1 : 0;
            case 6: return now.face(diner);
            default: return error(BEYOND);
        }
    }

    public int change(int diner, int what, int v) {
        if (!isDiner(diner) || !within(what, 3) || !within(v, mostToChangeTo(what))) {
            return error(BEYOND);
        }
        if (what == 3) {
            int before = now.gone[diner] ? 1 : 0;
            now.gone[diner] = v == 1;
            return before;
        }
        int[] row = what == 0 ? now.hunger : what == 1 ? now.sham : now.had;
        int before = row[diner];
        row[diner] = v;
        return before;
    }

    private static int mostToChangeTo(int what) {
        switch (what) {
            case 0: return MOST_HUNGER;
            case 1: return MOST_SHAM;
            case 2: return MOST_HAD;
            default: return 1;
        }
    }

    public int become(int diner, int km) {
        if (!isDiner(diner) || !within(km, MOST_KM)) {
            return error(BEYOND);
        }
        int before = now.kind[diner];
        now.kind[diner] = km / 10;
        now.m[diner] = km % 10;
        return before;
    }

    public int as(int diner, int kind) {
        if (!isDiner(diner) || !within(kind, KINDS - 1)) {
            return error(BEYOND);
        }
        if (!isUnder(now.kind[diner], kind)) {
            return error(KIND);
        }
        return now.m[diner];
    }

    private static boolean isUnder(int kind, int upper) {
        int at = kind;
        for (int i = 0; i < KINDS && within(at, KINDS - 1); i++) {
            if (at == upper) {
                return true;
            }
            at = ABOVE[at];
        }
        return false;
    }

    // ---- texts

    public int feed(long word, int n) {
        if (n < 1 || n > WORD_BYTES) {
            return error(BEYOND);
        }
        if (desk.fed > TAPE - n) {
            return error(FULL);
        }
        for (int i = 0; i < n; i++) {
            desk.tape[desk.fed] = (int) (word >>> (8 * i)) & 255;
            desk.fed++;
        }
        return desk.fed;
    }

    public int text(int use) {
        if (!within(use, 1)) {
            return error(BEYOND);
        }
        int fault = reader.readTape(desk.fed, use == 0 ? LOOKS_NAMES : BILL_NAMES);
        desk.fed = 0;
        if (fault >= 0) {
            return NO_TEXT - fault;
        }
        Law law = new Law(reader.codes, reader.size);
        if (use == 0) {
            now.looks = law;
        } else {
            now.bill = law;
        }
        return 1;
    }

    public int law(int use, int a, int b, int c) {
        if (!within(use, 1)) {
            return error(BEYOND);
        }
        return use == 0 ? now.looksBy(a, b, c) : now.billBy(a, b, c);
    }

    // ---- steps

    public int steps(int n) {
        if (n < 1 || n > MOST_STEPS) {
            return error(BEYOND);
        }
        if (now.step > LAST_STEP - n) {
            return error(STATE);
        }
        now.goOn(n);
        return now.hungerOfAll();
    }

    public int loose(int n) {
        if (n < 1 || n > MOST_DRAWS) {
            return error(BEYOND);
        }
        if (now.step > LAST_STEP - n) {
            return error(STATE);
        }
        for (int i = 0; i < n; i++) {
            drawSham();
            now.serveStep();
        }
        return now.hungerOfAll();
    }

    private void drawSham() {
        int drawn = desk.draw();
        if (now.diners > 0) {
            now.sham[drawn % now.diners] = drawn / 8 % SHAMS;
        }
    }

    // ---- what would be

    public int next() {
        now.seeFaces();
        return now.served();
    }

    public int then(int n, int diner, int what) {
        if (!within(n, MOST_STEPS) || !isDiner(diner) || !within(what, 2)) {
            return error(BEYOND);
        }
        Table table = think();
        table.goOn(n);
        switch (what) {
            case 0: return table.hunger[diner];
            case 1: return table.had[diner];
            default: return table.gone[diner] ? 1 : 0;
        }
    }

    public int first(int diner) {
        if (!isDiner(diner)) {
            return error(BEYOND);
        }
        int step = think().stepWithMore(diner, MOST_STEPS);
        return step == 0 ? error(NONE) : step;
    }

    public int never() {
        Table table = think();
        table.goOn(MOST_STEPS);
        int set = 0;
        for (int i = 0; i < now.diners; i++) {
            if (table.had[i] <= now.had[i]) {
                set |= 1 << i;
            }
        }
        return set;
    }

    public int sham(int diner, int n) {
        if (!isDiner(diner) || n < 1 || n > MOST_STEPS) {
            return error(BEYOND);
        }
        for (int sham = 0; sham < SHAMS; sham++) {
            if (think().isFedBy(diner, n, sham)) {
                return sham;
            }
        }
        return error(NONE);
    }

    public int alike(int diners, int n) {
        if (diners >>> now.diners != 0 || n < 1 || n > MOST_STEPS) {
            return error(BEYOND);
        }
        for (int sham = 0; sham < SHAMS; sham++) {
            Table table = think();
            table.shamAlike(diners, sham);
            table.goOn(n);
            if (haveMore(table, diners)) {
                return sham;
            }
        }
        return error(NONE);
    }

    private boolean haveMore(Table then, int set) {
        for (int i = 0; i < now.diners; i++) {
            if (has(set, i) && then.had[i] <= now.had[i]) {
                return false;
            }
        }
        return true;
    }

    public int whose(int sheet, int what) {
        if (!within(sheet, SHEETS - 1) || !within(what, 1)) {
            return error(BEYOND);
        }
        Sheet told = sheets[sheet];
        if (told.bits == 0) {
            return error(NONE);
        }
        if (what == 1) {
            return stepsToldRightly(told, now.waiters);
        }
        int set = 0;
        for (int w = 1; w <= MOST_WAITERS; w++) {
            if (stepsToldRightly(told, w) == told.length) {
                set |= 1 << w;
            }
        }
        return set;
    }

    private int stepsToldRightly(Sheet told, int waiters) {
        Table table = think();
        table.waiters = waiters;
        for (int i = 0; i < told.length; i++) {
            if (!told.holds(i, table.serveStep())) {
                return i;
            }
        }
        return told.length;
    }

    public int rank(int diner) {
        if (!isDiner(diner)) {
            return error(BEYOND);
        }
        if (now.gone[diner]) {
            return error(STATE);
        }
        now.seeFaces();
        return now.aheadOf(diner);
    }

    public int harm(int diner, int n) {
        if (!isDiner(diner) || !within(n, MOST_STEPS)) {
            return error(BEYOND);
        }
        Table table = think();
        table.goOn(n);
        honest.take(now);
        honest.sham[diner] = 0;
        honest.goOn(n);
        int set = 0;
        for (int i = 0; i < now.diners; i++) {
            if (i != diner && honest.had[i] > table.had[i]) {
                set |= 1 << i;
            }
        }
        return set;
    }

    public int cramps(int diner, int n) {
        if (!isDiner(diner) || !within(n, MOST_STEPS)) {
            return error(BEYOND);
        }
        Table table = think();
        int cramped = 0;
        for (int i = 0; i < n; i++) {
            table.serveStep();
            if (table.hunger[diner] >= CRAMPING) {
                cramped++;
            }
        }
        return cramped;
    }

    public int enough(int v, int n) {
        if (v < 1 || v > MOST_HUNGER || !within(n, MOST_STEPS)) {
            return error(BEYOND);
        }
        for (int w = 1; w <= MOST_WAITERS; w++) {
            Table table = think();
            table.waiters = w;
            table.goOn(n);
            if (table.greatestHunger() < v) {
                return w;
            }
        }
        return error(NONE);
    }

    public int meals(int n) {
        if (!within(n, MOST_STEPS)) {
            return error(BEYOND);
        }
        Table table = think();
        table.goOn(n);
        return table.hadByAll() - now.hadByAll();
    }

    public int odds(int diner, int n, int part) {
        if (!isDiner(diner) || !within(n, MOST_STEPS) || !within(part, 1)) {
            return error(BEYOND);
        }
        int above = 0;
        for (int sham = 0; sham < SHAMS; sham++) {
            if (think().isFedBy(diner, n, sham)) {
                above++;
            }
        }
        int common = commonDivisor(above, SHAMS);
        return (part == 0 ? above : SHAMS) / common;
    }

    /** The greatest number that divides both; below itself if above is 0, so that 0 is 0 by 1. */
    private static int commonDivisor(int above, int below) {
        for (int i = below; i > 1; i--) {
            if (above % i == 0 && below % i == 0) {
                return i;
            }
        }
        return 1;
    }

    // ---- draws, voices, sheets, images, what is told

    public int seed(int v) {
        int before = desk.z;
        desk.z = v;
        return before;
    }

    public int voice(int diner, int act, int x) {
        if (!isDiner(diner) || !within(act, ACTS - 1)) {
            return error(BEYOND);
        }
        voices.number = diner;
        voices.m = now.m[diner];
        voices.kind = now.kind[diner];
        voices.begun = 0;
        return speak(voices, act, voices.kind, x, 0);
    }

    /** What the BODY gives that the KIND, or the next above it, has for the act. */
    private static int speak(Voices who, int act, int kind, int x, int depth) {
        int owner = ownerOfBody(act, kind);
        if (owner < 0 || depth > DEEPEST) {
            return 0;
        }
        int body = BODIES[ACTS * owner + act];
        who.begin(body);
        int own = who.kind;
        int up = ABOVE[owner];
        int deep = depth + 1;
        switch (body) {
            case 10: return x + who.number;
            case 11: return speak(who, LOOKS, own, x, deep) * 2;
            case 12: return x - who.m;
            case 13: return speak(who, EATS, own, x, deep) ^ speak(who, WAITS, own, x, deep);
            case 20: return speak(who, LOOKS, up, x, deep) * 3;
            case 30: return speak(who, EATS, up, x, deep) - speak(who, WAITS, own, 1, deep);
            case 40: return -speak(who, WAITS, up, x, deep);
            case 50: return speak(who, TELLS, up, x, deep) - speak(who, LOOKS, own, 2, deep);
            case 60: return speak(who, EATS, up, x + 1, deep);
            case 70: return speak(who, WAITS, up, x, deep) ^ who.number;
            case 71: return speak(who, EATS, own, x, deep) - speak(who, TELLS, up, x, deep);
            default: return 0;
        }
    }

    private static int ownerOfBody(int act, int kind) {
        int at = kind;
        for (int i = 0; i < KINDS && within(at, KINDS - 1); i++) {
            if (BODIES[ACTS * at + act] != 0) {
                return at;
            }
            at = ABOVE[at];
        }
        return -1;
    }

    public int trace(int i) {
        if (i < 0 || i >= voices.begun) {
            return error(NONE);
        }
        return voices.bodies[i];
    }

    public int sheet(int sheet, int bits, int n) {
        if (!within(sheet, SHEETS - 1) || (bits != 0 && bits != 8 && bits != 16 && bits != 32)) {
            return error(BEYOND);
        }
        if (bits == 0) {
            sheets[sheet].lay(0, 0);
            return 1;
        }
        if (n < 0) {
            return error(STATE);
        }
        if (n > SHEET_NUMBERS) {
            return error(BEYOND);
        }
        sheets[sheet].lay(bits, n);
        return 1;
    }

    public int put(int sheet, int i, int v) {
        if (!within(sheet, SHEETS - 1)) {
            return error(BEYOND);
        }
        Sheet row = sheets[sheet];
        if (row.bits == 0) {
            return error(NONE);
        }
        if (i < 0 || i >= row.length) {
            return error(BEYOND);
        }
        row.numbers[i] = row.lowest(v);
        return 1;
    }

    public int move(int sheet, int i, int other, int j, int n) {
        if (!within(sheet, SHEETS - 1) || !within(other, SHEETS - 1)) {
            return error(BEYOND);
        }
        Sheet from = sheets[sheet];
        Sheet to = sheets[other];
        if (from.bits == 0 || to.bits == 0) {
            return error(NONE);
        }
        if (from.bits != to.bits) {
            return error(KIND);
        }
        if (n < 0 || i < 0 || j < 0 || i > from.length - n || j > to.length - n) {
            return error(BEYOND);
        }
        System.arraycopy(from.numbers, i, to.numbers, j, n);
        return n;
    }

    public int shams(int sheet) {
        if (!within(sheet, SHEETS - 1)) {
            return error(BEYOND);
        }
        Sheet row = sheets[sheet];
        if (row.bits == 0) {
            return error(NONE);
        }
        int most = Math.min(row.length, now.diners);
        for (int i = 0; i < most; i++) {
            if (!within(row.numbers[i], MOST_SHAM)) {
                return i;
            }
            now.sham[i] = row.numbers[i];
        }
        return most;
    }

    public int judge(int sheet) {
        if (!within(sheet, SHEETS - 1)) {
            return error(BEYOND);
        }
        Sheet row = sheets[sheet];
        if (row.bits == 0) {
            return error(NONE);
        }
        int most = Math.min(row.length, now.diners);
        for (int i = 0; i < most; i++) {
            if (!row.holds(i, now.face(i))) {
                return i;
            }
        }
        return row.length == now.diners ? -1 : most;
    }

    public int image() {
        tableKept.take(now);
        deskKept.take(desk);
        images++;
        return images;
    }

    public int restore() {
        if (images == 0) {
            return error(NONE);
        }
        now.take(tableKept);
        desk.take(deskKept);
        return now.step;
    }

    public int tell(int v) {
        if (desk.waits >= MOST_WAITING) {
            return error(FULL);
        }
        desk.waiting[desk.waits] = v;
        desk.waits++;
        return desk.waits;
    }

    public int check() {
        int told = desk.waits;
        desk.waits = 0;
        Table table = think();
        for (int i = 0; i < told; i++) {
            table.serveStep();
            if (table.hungerOfAll() != desk.waiting[i]) {
                return 1 + i;
            }
        }
        return 0;
    }

    public int count(int what) {
        switch (what) {
            case 0: return now.diners;
            case 1: return now.waiters;
            case 2: return now.step;
            case 3: return now.hungerOfAll();
            case 4: return now.hadByAll();
            case 5: return now.goneOnes();
            case 6: return desk.fed;
            case 7: return desk.waits;
            case 8: return voices.begun;
            case 9: return desk.z;
            default: return error(BEYOND);
        }
    }

    public int told(int k) {
        if (k < 1 || k > ERRORS) {
            return error(BEYOND);
        }
        return errors[k];
    }

    private int error(int k) {
        errors[k]++;
        return LOW - k;
    }

    private static boolean within(int v, int most) {
        return v >= 0 && v <= most;
    }

    private static boolean has(int set, int i) {
        return (set >> i & 1) != 0;
    }

    private static int held(int v, int most) {
        return v < 0 ? 0 : v > most ? most : v;
    }

    private boolean isDiner(int diner) {
        return diner >= 0 && diner < now.diners;
    }

    private Table think() {
        thought.take(now);
        return thought;
    }

    /** Courses, waiters and diners with their laws: all that a STEP looks at. */
    private static final class Table {
        final int[] fill = {5, 5, 5, 5, 5, 5, 5, 5};
        final int[] kind = new int[MOST_DINERS];
        final int[] m = new int[MOST_DINERS];
        final int[] hunger = new int[MOST_DINERS];
        final int[] sham = new int[MOST_DINERS];
        final int[] had = new int[MOST_DINERS];
        final boolean[] gone = new boolean[MOST_DINERS];
        private final int[] faces = new int[MOST_DINERS];
        int waiters = 1;
        int step = 0;
        int diners = 0;
        /** A Law never changes once made, so tables may share it; null: no TEXT. */
        Law looks = null;
        Law bill = null;

        void take(Table other) {
            System.arraycopy(other.fill, 0, fill, 0, COURSES);
            System.arraycopy(other.kind, 0, kind, 0, MOST_DINERS);
            System.arraycopy(other.m, 0, m, 0, MOST_DINERS);
            System.arraycopy(other.hunger, 0, hunger, 0, MOST_DINERS);
            System.arraycopy(other.sham, 0, sham, 0, MOST_DINERS);
            System.arraycopy(other.had, 0, had, 0, MOST_DINERS);
            System.arraycopy(other.gone, 0, gone, 0, MOST_DINERS);
            waiters = other.waiters;
            step = other.step;
            diners = other.diners;
            looks = other.looks;
            bill = other.bill;
        }

        int looksBy(int h, int c, int s) {
            return held(looks == null ? c + 9 - h / 9 : looks.worth(h, c, s), MOST_HUNGER);
        }

        int billBy(int h, int f, int c) {
            return bill == null ? 0 : held(bill.worth(h, f, c), 1);
        }

        int face(int i) {
            int v = looksBy(hunger[i], had[i], step % 16);
            switch (kind[i]) {
                case PRIEST: return v + sham[i] + m[i];
                case CRITIC: return v / 2 + sham[i];
                case CHILD: return v + sham[i] - hunger[i] / 2;
                case MOURNER: return v + sham[i] + m[i] - 20;
                case COUPLE: return v / 2 + sham[i] + (had[i] > 0 ? 9 : 0);
                case COOK: return v + 2 * sham[i] - hunger[i] / 2;
                default: return v + sham[i];
            }
        }

        private int grows(int i) {
            switch (kind[i]) {
                case PRIEST: case MOURNER: return 0;
                case CRITIC: case COUPLE: return 2;
                case CHILD: case COOK: return 1 + m[i] % 3;
                default: return 1;
            }
        }

        void seeFaces() {
            for (int i = 0; i < diners; i++) {
                faces[i] = face(i);
            }
        }

        /** By the faces as they were last seen. */
        int aheadOf(int diner) {
            int ahead = 0;
            for (int i = 0; i < diners; i++) {
                boolean before = faces[i] > faces[diner] || (faces[i] == faces[diner] && i < diner);
                if (before && !gone[i]) {
                    ahead++;
                }
            }
            return ahead;
        }

        /** By the faces as they were last seen. */
        int served() {
            int set = 0;
            for (int i = 0; i < diners; i++) {
                if (!gone[i] && aheadOf(i) < waiters) {
                    set |= 1 << i;
                }
            }
            return set;
        }

        /** One STEP; those who were SERVED in it. */
        int serveStep() {
            seeFaces();
            int set = served();
            for (int i = 0; i < diners; i++) {
                if (!gone[i]) {
                    pass(i, has(set, i));
                }
            }
            step++;
            return set;
        }

        private void pass(int i, boolean isServed) {
            if (isServed) {
                hunger[i] = Math.max(0, hunger[i] - fill[had[i] % COURSES]);
                had[i] = Math.min(MOST_HAD, had[i] + 1);
            } else {
                hunger[i] = Math.min(MOST_HUNGER, hunger[i] + grows(i));
            }
            // A face is dear to work out, and without a TEXT nobody is billed.
            gone[i] = bill != null && billBy(hunger[i], face(i), had[i]) != 0;
        }

        void goOn(int n) {
            for (int i = 0; i < n; i++) {
                serveStep();
            }
        }

        /** The STEP, of at most n, behind which the diner has HAD more; 0: none. */
        int stepWithMore(int diner, int n) {
            int before = had[diner];
            for (int i = 1; i <= n; i++) {
                serveStep();
                if (had[diner] > before) {
                    return i;
                }
            }
            return 0;
        }

        boolean isFedBy(int diner, int n, int itsSham) {
            sham[diner] = itsSham;
            int before = had[diner];
            for (int i = 0; i < n && had[diner] <= before; i++) {
                serveStep();
            }
            return had[diner] > before;
        }

        void shamAlike(int set, int theirSham) {
            for (int i = 0; i < diners; i++) {
                if (has(set, i)) {
                    sham[i] = theirSham;
                }
            }
        }

        int hungerOfAll() {
            int sum = 0;
            for (int i = 0; i < diners; i++) {
                sum += hunger[i];
            }
            return sum;
        }

        int greatestHunger() {
            int most = 0;
            for (int i = 0; i < diners; i++) {
                most = Math.max(most, hunger[i]);
            }
            return most;
        }

        int hadByAll() {
            int sum = 0;
            for (int i = 0; i < diners; i++) {
                sum += had[i];
            }
            return sum;
        }

        int goneOnes() {
            int sum = 0;
            for (int i = 0; i < diners; i++) {
                if (gone[i]) {
                    sum++;
                }
            }
            return sum;
        }
    }

    /** What an IMAGE keeps beside the table: z, THE TAPE, the numbers that wait. */
    private static final class Desk {
        int z = 1;
        final int[] tape = new int[TAPE];
        int fed = 0;
        final int[] waiting = new int[MOST_WAITING];
        int waits = 0;

        void take(Desk other) {
            z = other.z;
            System.arraycopy(other.tape, 0, tape, 0, TAPE);
            fed = other.fed;
            System.arraycopy(other.waiting, 0, waiting, 0, MOST_WAITING);
            waits = other.waits;
        }

        int draw() {
            z = z * 1103515245 + 12345;
            return z >>> 8;
        }
    }

    /** Who speaks, and which BODIES began; it outlives an IMAGE. */
    private static final class Voices {
        int number = 0;
        int m = 0;
        int kind = 0;
        final int[] bodies = new int[TRACE];
        int begun = 0;

        void begin(int body) {
            if (begun < TRACE) {
                bodies[begun] = body;
                begun++;
            }
        }
    }

    /** A row of numbers of some bits, kept as their lowest bits; no bits: it is missing. */
    private static final class Sheet {
        int bits = 0;
        int length = 0;
        final int[] numbers = new int[SHEET_NUMBERS];

        void lay(int newBits, int newLength) {
            bits = newBits;
            length = newLength;
            Arrays.fill(numbers, 0);
        }

        int lowest(int v) {
            return bits == 8 ? v & 255 : bits == 16 ? v & 65535 : v;
        }

        /** As put() keeps the lowest bits alone, they alone can be held against v. */
        boolean holds(int i, int v) {
            return numbers[i] == lowest(v);
        }
    }

    /** A TEXT as codes in the order in which they are worked out: parts first, then their sign. */
    private static final class Law {
        private final int[] codes;
        private final int[] worths;

        Law(int[] read, int size) {
            codes = Arrays.copyOf(read, size);
            worths = new int[size];
        }

        int worth(int a, int b, int c) {
            int top = 0;
            for (int i = 0; i < codes.length; i++) {
                int code = codes[i];
                int parts = code >= NUMBERS || code < NAMES ? 0 : code == '!' ? 1 : 2;
                top -= parts;
                if (top < 0 || top >= worths.length) {
                    return 0;
                }
                int p = worths[top];
                int q = top + 1 < worths.length ? worths[top + 1] : 0;
                switch (code) {
                    case 0: worths[top] = a; break;
                    case 1: worths[top] = b; break;
                    case 2: worths[top] = c; break;
                    case '!': worths[top] = p == 0 ? 1 : 0; break;
                    case '+': worths[top] = p + q; break;
                    case '-': worths[top] = p - q; break;
                    case '*': worths[top] = p * q; break;
                    case '/': worths[top] = q == 0 ? 0 : p / q; break;
                    case '%': worths[top] = q == 0 ? 0 : p % q; break;
                    case '<': worths[top] = p < q ? 1 : 0; break;
                    case '=': worths[top] = p == q ? 1 : 0; break;
                    case '>': worths[top] = p > q ? 1 : 0; break;
                    case '&': worths[top] = p != 0 && q != 0 ? 1 : 0; break;
                    case '|': worths[top] = p != 0 || q != 0 ? 1 : 0; break;
                    default: worths[top] = code - NUMBERS; break;
                }
                top++;
            }
            return worths.length > 0 ? worths[0] : 0;
        }
    }

    /** Reads THE TAPE as a TEXT into codes; each byte adds at most one. */
    private static final class Reader {
        final int[] codes = new int[TAPE];
        int size = 0;
        private final int[] tape;
        private int length = 0;
        private String names = LOOKS_NAMES;
        private int place = 0;
        private int fault = -1;

        Reader(int[] bytes) {
            tape = bytes;
        }

        /** The FAULT; -1: it is a TEXT. */
        int readTape(int fed, String itsNames) {
            length = Math.min(fed, tape.length);
            names = itsNames;
            size = 0;
            place = 0;
            fault = -1;
            readLevel(0, 0);
            if (place < length) {
                fail();
            }
            return fault;
        }

        /** T, A, B, S, P, Q are the levels 0 to 5. */
        private void readLevel(int level, int open) {
            if (level >= LEVEL_Q) {
                readQ(open);
                return;
            }
            readLevel(level + 1, open);
            int most = level == LEVEL_B ? 1 : TAPE;
            for (int i = 0; i < most; i++) {
                int sign = pass(signsOf(level));
                if (sign == 0) {
                    return;
                }
                readLevel(level + 1, open);
                add(sign);
            }
        }

        private static String signsOf(int level) {
            switch (level) {
                case 0: return "|";
                case 1: return "&";
                case LEVEL_B: return "<=>";
                case 3: return "+-";
                default: return "*/%";
            }
        }

        private void readQ(int open) {
            int b = here();
            int name = b < 0 ? -1 : names.indexOf((char) b);
            if (isDigit(b)) {
                readNumber();
            } else if (name >= 0) {
                place++;
                add(name);
            } else if (b == '!' && open < MOST_OPEN) {
                place++;
                readQ(open + 1);
                add('!');
            } else if (b == '(' && open < MOST_OPEN) {
                place++;
                readLevel(0, open + 1);
                if (pass(")") == 0) {
                    fail();
                }
            } else {
                fail();
            }
        }

        private void readNumber() {
            int number = 0;
            for (int i = 0; i < MOST_DIGITS && isDigit(here()); i++) {
                number = number * 10 + here() - '0';
                place++;
            }
            add(NUMBERS + number);
        }

        private static boolean isDigit(int b) {
            return b >= '0' && b <= '9';
        }

        /** The byte that comes next; -1: none does, or there is a FAULT ahead. */
        private int here() {
            return fault < 0 && place < length ? tape[place] : -1;
        }

        /** One of these signs, if it comes next (it is passed then); else 0. */
        private int pass(String signs) {
            int b = here();
            if (b < 0 || signs.indexOf((char) b) < 0) {
                return 0;
            }
            place++;
            return b;
        }

        private void fail() {
            if (fault < 0) {
                fault = place;
            }
        }

        private void add(int code) {
            if (size < TAPE) {
                codes[size] = code;
                size++;
            }
        }
    }
}
