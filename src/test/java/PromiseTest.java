/** One test for each promise, with answers worked out by hand from the document. */
public final class PromiseTest extends Checks {
    // ---- courses, waiters, diners

    static void p1_newObject() {
        LooksServed x = new LooksServed();
        for (int k = 1; k <= 5; k++) due("told", x.told(k), 0);
        row("count", of(0, 1, 0, 0, 0, 0, 0, 0, 0, 1), x.count(0), x.count(1), x.count(2), x.count(3), x.count(4),
            x.count(5), x.count(6), x.count(7), x.count(8), x.count(9));
        for (int i = 0; i < 8; i++) due("filling", x.filling(i), 5);
        all("next, never", 0, x.next(), x.never(), x.check(), x.meals(60), x.alike(0, 60), x.steps(60));
        all("none", NONE, x.judge(0), x.judge(1), x.judge(2), x.judge(3), x.trace(0), x.restore());
        all("no diner", BEYOND, x.ofDiner(0, 0), x.first(0), x.rank(0), x.alike(1, 1), x.voice(0, 0, 0));
        due("law 0", x.law(0, 18, 3, 7), 10);
        due("law 1", x.law(1, 99, 99, 99), 0);
        LooksServed y = new LooksServed();
        due("loose without diners", y.loose(1), 0);
        due("z has gone on", y.count(9), 1103527590);
    }

    static void p2_fills() {
        LooksServed x = new LooksServed();
        row("fills", of(5, 30, 0, 5), x.fills(0, 30), x.fills(0, 0), x.fills(0, 7), x.fills(7, 30));
        all("fills", BEYOND, x.fills(-1, 5), x.fills(8, 5), x.fills(0, -1), x.fills(0, 31), x.fills(MAX, 1),
            x.fills(MIN, 1), x.fills(0, MAX), x.fills(0, MIN));
        row("left", of(7, 5, 30, 5), x.filling(0), x.filling(1), x.filling(7), x.filling(6));
    }

    static void p3_filling() {
        LooksServed x = new LooksServed();
        for (int i = 0; i < 8; i++) x.fills(i, 10 + i);
        for (int i = 0; i < 8; i++) due("filling", x.filling(i), 10 + i);
        all("filling", BEYOND, x.filling(-1), x.filling(8), x.filling(MAX), x.filling(MIN));
    }

    static void p4_waiters() {
        LooksServed x = shammers(1, 2, 3, 4, 5);
        row("waiters", of(1, 4, 2), x.waiters(4), x.waiters(2), x.waiters(3));
        all("waiters", BEYOND, x.waiters(0), x.waiters(5), x.waiters(-1), x.waiters(MAX), x.waiters(MIN));
        due("left", x.count(1), 3);
        due("next", x.next(), 0b11100);
    }

    static void p5_diner() {
        LooksServed x = new LooksServed();
        all("diner", BEYOND, x.diner(-1, 0, 0), x.diner(70, 0, 0), x.diner(0, -1, 0), x.diner(0, 100, 0),
            x.diner(0, 0, -1), x.diner(0, 0, 10), x.diner(MAX, 0, 0), x.diner(MIN, 0, 0), x.diner(0, MIN, 0));
        due("none came", x.count(0), 0);
        row("numbers", of(0, 1, 2), x.diner(69, 99, 9), x.diner(0, 0, 0), x.diner(37, 12, 3));
        row("kinds", of(6, 0, 3), ofAll(x, 0));
        row("m", of(9, 0, 7), ofAll(x, 1));
        row("hunger", of(99, 0, 12), ofAll(x, 2));
        row("shams", of(9, 0, 3), ofAll(x, 3));
        row("had", of(0, 0, 0), ofAll(x, 4));
        row("gone", of(0, 0, 0), ofAll(x, 5));
        for (int i = 3; i < 8; i++) due("diner", x.diner(i, i, 0), i);
        due("a ninth", x.diner(0, 0, 0), FULL);
        due("a wrong ninth", x.diner(70, 0, 0), BEYOND);
        due("eight", x.count(0), 8);
    }

    static void p6_ofDiner() {
        LooksServed x = new LooksServed();
        write(x, 0, "h/10*10+c+s");
        for (int kind = 0; kind < 7; kind++) x.diner(kind * 10 + kind + 1, 47, 4);
        row("faces", of(44, 46, 24, 21, 29, 24, 25), ofAll(x, 6));
        for (int i = 0; i < 7; i++) x.change(i, 2, 3);
        row("faces, had 3", of(47, 49, 25, 24, 32, 34, 28), ofAll(x, 6));
        x.change(5, 2, 1);
        due("a couple, had 1", x.ofDiner(5, 6), 20 + 4 + 9);
        x.change(0, 3, 1);
        row("of 0", of(0, 1, 47, 4, 3, 1, 47), x.ofDiner(0, 0), x.ofDiner(0, 1), x.ofDiner(0, 2), x.ofDiner(0, 3),
            x.ofDiner(0, 4), x.ofDiner(0, 5), x.ofDiner(0, 6));
        all("beyond", BEYOND, x.ofDiner(-1, 0), x.ofDiner(7, 0), x.ofDiner(0, 7), x.ofDiner(0, -1),
            x.ofDiner(MAX, 6), x.ofDiner(MIN, 6), x.ofDiner(0, MAX));
        LooksServed y = new LooksServed();
        y.diner(30, 99, 0);
        due("a child, held at 0 ahead", y.ofDiner(0, 6), -49);
        y.become(0, 0);
        y.change(0, 2, 99);
        y.change(0, 0, 0);
        due("held at 99", y.ofDiner(0, 6), 99);
        write(y, 0, "s*2");
        y.steps(15);
        due("s is 15", y.ofDiner(0, 6), 30);
        y.steps(1);
        due("s is 0 again", y.ofDiner(0, 6), 0);
    }

    static void p7_change() {
        LooksServed x = shammers(1, 2);
        row("change", of(40, 2, 0, 0), x.change(1, 0, 99), x.change(1, 1, 9), x.change(1, 2, 99), x.change(1, 3, 1));
        row("of 1", of(99, 9, 99, 1), x.ofDiner(1, 2), x.ofDiner(1, 3), x.ofDiner(1, 4), x.ofDiner(1, 5));
        row("of 0", of(40, 1, 0, 0), x.ofDiner(0, 2), x.ofDiner(0, 3), x.ofDiner(0, 4), x.ofDiner(0, 5));
        all("beyond", BEYOND, x.change(1, 0, 100), x.change(1, 0, -1), x.change(1, 1, 10), x.change(1, 1, -1),
            x.change(1, 2, 100), x.change(1, 2, -1), x.change(1, 3, 2), x.change(1, 3, -1), x.change(1, 4, 0),
            x.change(1, -1, 0), x.change(2, 0, 0), x.change(-1, 0, 0), x.change(MAX, 3, 0), x.change(1, MAX, 0));
        row("back", of(99, 9, 99, 1), x.change(1, 0, 0), x.change(1, 1, 0), x.change(1, 2, 0), x.change(1, 3, 0));
        row("of 1", of(0, 0, 0, 0), x.ofDiner(1, 2), x.ofDiner(1, 3), x.ofDiner(1, 4), x.ofDiner(1, 5));
    }

    static void p8_become() {
        LooksServed x = shammers(3, 4);
        x.change(1, 2, 5);
        row("become", of(0, 6, 1, 4), x.become(1, 69), x.become(1, 10), x.become(1, 42), x.become(1, 42));
        row("of 1", of(4, 2, 40, 4, 5, 0), x.ofDiner(1, 0), x.ofDiner(1, 1), x.ofDiner(1, 2), x.ofDiner(1, 3),
            x.ofDiner(1, 4), x.ofDiner(1, 5));
        all("beyond", BEYOND, x.become(1, 70), x.become(1, -1), x.become(2, 0), x.become(-1, 0), x.become(1, MAX));
        row("kinds", of(0, 4), ofAll(x, 0));
    }

    static void p9_as() {
        boolean[][] under = new boolean[7][7];
        int[] above = {0, 0, 0, 0, 1, 2, 3};
        for (int kind = 0; kind < 7; kind++) under[kind][kind] = under[kind][0] = under[kind][above[kind]] = true;
        LooksServed x = new LooksServed();
        for (int kind = 0; kind < 7; kind++) x.diner(kind * 10 + kind + 2, 0, 0);
        int kinds = 0;
        for (int diner = 0; diner < 7; diner++) {
            for (int kind = 0; kind < 7; kind++) {
                due("as " + diner + " " + kind, x.as(diner, kind), under[diner][kind] ? diner + 2 : KIND);
                kinds += under[diner][kind] ? 0 : 1;
            }
        }
        all("beyond", BEYOND, x.as(7, 0), x.as(-1, 0), x.as(0, 7), x.as(0, -1), x.as(MAX, 1), x.as(1, MIN));
        due("told 5", x.told(5), kinds);
    }

    // ---- texts

    static void p10_feed() {
        LooksServed x = new LooksServed();
        all("beyond", BEYOND, x.feed(1, 0), x.feed(1, 9), x.feed(1, -1), x.feed(1, MAX), x.feed(1, MIN));
        due("two", x.feed(0x4142432B63L, 2), 2);
        due("more", x.feed(0x4142432B3233L, 3), 5);
        due("c+32+", x.text(0), -15);
        due("six", x.feed('c' | '+' << 8 | (long) '3' << 40 | (long) '*' << 16 | (long) '2' << 24, 6), 6);
        due("c+*", x.text(0), -12);
        due("eight", x.feed(0x3132333431323334L, 8), 8);
        for (int i = 2; i <= 6; i++) due("eights", x.feed(-1L, 8), 8 * i);
        all("full", FULL, x.feed(0, 3), x.feed(0, 8));
        due("count", x.count(6), 48);
        due("fifty", x.feed(0, 2), 50);
        all("full", FULL, x.feed(0, 1), x.feed(0, 2));
        due("beyond first", x.feed(0, 9), BEYOND);
        due("count", x.count(6), 50);
        LooksServed y = new LooksServed();
        due("four", y.feed(0xFFFFFFFF33322B63L, 4), 4);
        due("c+23", y.text(0), 1);
        due("worth", y.law(0, 0, 4, 0), 27);
        y.feed(0x63L << 56 | '1' | '+' << 8 | '1' << 16 | '+' << 24 | (long) '1' << 32 | (long) '+' << 40
            | (long) '(' << 48, 8);
        y.feed(')', 1);
        due("1+1+1+(c)", y.text(0), 1);
        due("worth", y.law(0, 0, 4, 0), 7);
    }

    private static void fault(int use, String text, int place) {
        LooksServed x = new LooksServed();
        write(x, use, "7");
        due("fed " + text, feed(x, text), text.length());
        due("text " + text, x.text(use), -10 - place);
        due("the tape is empty", x.count(6), 0);
        due("the one ahead stays", x.law(use, 0, 0, 0), use == 0 ? 7 : 1);
        for (int k = 1; k <= 5; k++) due("no error", x.told(k), 0);
    }

    private static void good(int use, String text) {
        LooksServed x = new LooksServed();
        feed(x, text);
        due("text " + text, x.text(use), 1);
        due("the tape is empty", x.count(6), 0);
    }

    static void p11_text() {
        LooksServed x = new LooksServed();
        feed(x, "3");
        all("beyond", BEYOND, x.text(2), x.text(-1), x.text(MAX), x.text(MIN));
        due("the tape stays", x.count(6), 1);
        due("text", x.text(0), 1);
        row("worths", of(3, 0), x.law(0, 0, 9, 0), x.law(1, 1, 1, 1));
        due("in place", write(x, 0, "4"), 1);
        due("worth", x.law(0, 0, 9, 0), 4);
        due("empty", x.text(0), -10);
        for (String t : new String[] {"0", "9999", "0000", "h", "!!!!!h", "(((((h)))))", "!(!(!h))", "1<2&2>1|0=0",
            "(1<2)<3", "(0|1)", "((1|0)&(1|0))", "!h+!h+!h+!h+!h+!h+!h", "(h)+(h)+(h)+(h)+(h)+(h)+(h)", "h%3/2*1-4+5",
            "h+h+h+h+h+h+h+h+h+h+h+h+h+h+h+h+h+h+h+h+h+h+h+h+10"}) {
            good(0, t);
            good(1, t);
        }
        good(0, "h+c+s");
        good(1, "h+f+c");
        fault(0, "f", 0);
        fault(1, "s", 0);
        fault(0, "h+x", 2);
        fault(0, "12345", 4);
        fault(0, "hc", 1);
        fault(0, "5h", 1);
        fault(0, "h5", 1);
        fault(0, "h(", 1);
        fault(0, "h!", 1);
        fault(0, "1<2<3", 3);
        fault(0, "1=2+1>3", 5);
        fault(0, "(1<2=3)", 4);
        fault(0, "1+", 2);
        fault(0, "!", 1);
        fault(0, "(", 1);
        fault(0, "(1", 2);
        fault(0, "()", 1);
        fault(0, "1)", 1);
        fault(0, "(1))", 3);
        fault(0, "-1", 0);
        fault(0, "1--1", 2);
        fault(0, "1 ", 1);
        fault(0, " 1", 0);
        fault(0, "!!!!!!h", 5);
        fault(0, "((((((h", 5);
        fault(0, "(!(!((", 5);
        fault(0, "(!(!(!", 5);
        fault(0, "H", 0);
        fault(0, "1\u0000", 1);
        fault(0, "\u00e8", 0);
        fault(0, "1+\u00ff", 2);
        fault(0, "1||1", 2);
        fault(0, "1==1", 2);
        fault(0, "h+h+h+h+h+h+h+h+h+h+h+h+h+h+h+h+h+h+h+h+h+h+h+h+h+", 50);
        fault(0, "", 0);
        fault(1, "!x", 1);
    }

    private static void worth(String text, int h, int want) {
        LooksServed x = new LooksServed();
        due("text " + text, write(x, 0, text), 1);
        due("worth of " + text, x.law(0, h, 3, 5), want);
    }

    static void p12_law() {
        LooksServed x = new LooksServed();
        all("beyond", BEYOND, x.law(2, 0, 0, 0), x.law(-1, 0, 0, 0), x.law(MAX, 0, 0, 0), x.law(MIN, 0, 0, 0));
        row("without a text", of(9, 0, 12, 10, 99, 0, 99, 0), x.law(0, 0, 0, 0), x.law(0, 81, 0, 3),
            x.law(0, 8, 3, 0), x.law(0, -9, 0, 0), x.law(0, 0, 99, 0), x.law(0, 0, MIN, 0), x.law(0, MIN, 0, 0),
            x.law(0, 0, MAX, 0));
        all("no bill", 0, x.law(1, 1, 1, 1), x.law(1, MAX, MAX, MAX));
        write(x, 0, "h*10+c*3+s");
        write(x, 1, "h-f*2-c");
        row("names", of(28, 99, 0), x.law(0, 1, 5, 3), x.law(0, 9, 9, 9), x.law(0, -1, 0, 0));
        row("bill", of(1, 0, 1, 0), x.law(1, 9, 2, 3), x.law(1, 7, 2, 3), x.law(1, 8, 2, 3), x.law(1, 0, 2, 3));
        worth("h-2-3", 9, 4);
        worth("h-(2-3)", 9, 10);
        worth("2+3*4", 0, 14);
        worth("100/7/2", 0, 7);
        worth("100%7*3", 0, 6);
        worth("17/(0-5)+9", 0, 6);
        worth("(0-17)%5+9", 0, 7);
        worth("17%(0-5)+9", 0, 11);
        worth("7/(h-h)+1", 4, 1);
        worth("7%(h-h)+1", 4, 1);
        worth("(1<2)+(2<1)*10+(2<2)*20", 0, 1);
        worth("(2>1)+(1>2)*10+(2>2)*20", 0, 1);
        worth("(2=2)+(1=2)*10", 0, 1);
        worth("1+1=2", 0, 1);
        worth("5|0", 0, 1);
        worth("0|0", 0, 0);
        worth("5&6", 0, 1);
        worth("5&0", 0, 0);
        worth("0&0|3", 0, 1);
        worth("3|0&0", 0, 1);
        worth("1=1&2", 0, 1);
        worth("!5", 0, 0);
        worth("!0+8", 0, 9);
        worth("!!7", 0, 1);
        worth("!h*5", 0, 5);
        worth("0010", 0, 10);
        worth("9999*9999*9999*9999>0", 0, 1);
        worth("h*2", MAX, 0);
        worth("h*2+9", MIN, 9);
        worth("h+1<0", MAX, 1);
        worth("h/(0-1)<0", MIN, 1);
        worth("h%(0-1)+3", MIN, 3);
        worth("h", 99, 99);
        worth("h", 100, 99);
        worth("h", -1, 0);
        worth("7", 0, 7);
        worth("((2))", 0, 2);
        worth("c*10+s", 0, 35);
    }

    // ---- steps

    private static void stepServes() {
        LooksServed x = shammers(1, 2, 2);
        due("steps", x.steps(1), 41 + 35 + 41);
        row("hungers", of(41, 35, 41), hungers(x));
        row("had", of(0, 1, 0), ofAll(x, 4));
        x.waiters(2);
        due("steps", x.steps(2), 43 + 25 + 31);
        row("had", of(0, 3, 2), ofAll(x, 4));
        due("step", x.count(2), 3);
        x.change(1, 3, 1);
        due("steps", x.steps(1), 38 + 25 + 26);
        row("the gone one is left out", of(1, 3, 3), ofAll(x, 4));
        LooksServed y = shammers(9, 1);
        y.change(0, 0, 3);
        y.change(1, 0, 99);
        due("held at 0 and 99", y.steps(1), 99);
    }

    private static void stepGrows() {
        LooksServed x = shammers(9);
        write(x, 0, "(h=40)*99");
        x.diner(0, 50, 0);
        x.diner(19, 50, 0);
        x.diner(29, 50, 0);
        x.diner(35, 50, 0);
        x.diner(48, 50, 0);
        x.diner(58, 50, 0);
        x.diner(64, 50, 0);
        x.steps(1);
        row("grown", of(35, 51, 50, 52, 53, 50, 52, 52), hungers(x));
        x.become(4, 33);
        x.become(7, 67);
        x.change(0, 0, 40);
        x.steps(1);
        row("grown", of(35, 52, 50, 54, 54, 50, 54, 54), hungers(x));
    }

    private static void stepCourses() {
        LooksServed x = shammers(0);
        for (int i = 0; i < 8; i++) x.fills(i, i + 1);
        x.change(0, 0, 99);
        x.change(0, 2, 6);
        due("course 6", x.steps(1), 92);
        due("course 7", x.steps(1), 84);
        due("course 0", x.steps(1), 83);
        due("course 1", x.steps(1), 81);
        x.change(0, 2, 98);
        due("course 2", x.steps(1), 78);
        due("course 3", x.steps(1), 74);
        due("course 3 again", x.steps(1), 70);
        due("held", x.ofDiner(0, 4), 99);
    }

    private static void stepBills() {
        LooksServed x = shammers(5, 0, 0);
        x.change(1, 0, 48);
        write(x, 1, "h>49");
        x.steps(1);
        row("gone", of(0, 0, 0), ofAll(x, 5));
        x.steps(1);
        row("gone", of(0, 1, 0), ofAll(x, 5));
        x.steps(5);
        row("no more hunger", of(5, 50, 47), hungers(x));
        x.change(1, 0, 1);
        x.steps(1);
        row("gone stays gone", of(0, 1, 0), ofAll(x, 5));
        LooksServed y = new LooksServed();
        y.diner(0, 40, 1);
        write(y, 0, "c");
        write(y, 1, "f=3&c=2&h=30");
        y.steps(1);
        due("not yet", y.ofDiner(0, 5), 0);
        y.steps(1);
        due("the face, had and hunger as they are then", y.ofDiner(0, 5), 1);
        LooksServed z = new LooksServed();
        z.diner(0, 40, 0);
        write(z, 0, "s");
        write(z, 1, "f=1");
        z.steps(1);
        due("the step isn't over", z.ofDiner(0, 5), 0);
        z.steps(1);
        due("gone", z.ofDiner(0, 5), 1);
        LooksServed w = shammers(0, 0);
        write(w, 1, "0-1");
        w.steps(3);
        due("below 0 is held", w.count(5), 0);
        write(w, 1, "2");
        w.steps(1);
        due("served or not", w.count(5), 2);
    }

    private static void stepLimits() {
        LooksServed x = new LooksServed();
        x.diner(10, 40, 0);
        all("beyond", BEYOND, x.steps(0), x.steps(61), x.steps(-1), x.steps(MAX), x.steps(MIN));
        for (int i = 0; i < 166; i++) x.steps(60);
        due("step", x.count(2), 9960);
        all("state", STATE, x.steps(40), x.steps(60), x.loose(40));
        due("step", x.count(2), 9960);
        due("to the last", x.steps(39), 0);
        due("step", x.count(2), 9999);
        all("state", STATE, x.steps(1), x.loose(1), x.steps(60), x.loose(40));
        all("beyond first", BEYOND, x.steps(61), x.loose(41), x.steps(0), x.loose(0));
        write(x, 0, "s");
        due("s of 9999", x.ofDiner(0, 6), 15);
        x.change(0, 2, 0);
        due("thought goes beyond", x.then(60, 0, 1), 60);
        due("z", x.count(9), 1);
        LooksServed y = new LooksServed();
        for (int i = 0; i < 166; i++) y.steps(60);
        due("to the last by draws", y.loose(39), 0);
        due("step", y.count(2), 9999);
    }

    static void p13_steps() {
        stepServes();
        stepGrows();
        stepCourses();
        stepBills();
        stepLimits();
    }

    private static void drawsForOne() {
        LooksServed x = shammers(0);
        x.loose(1);
        row("one diner takes every draw", of(1), ofAll(x, 3));
    }

    static void p14_loose() {
        drawsForOne();
        LooksServed x = shammers(0, 0, 0);
        all("beyond", BEYOND, x.loose(0), x.loose(41), x.loose(-1), x.loose(MAX), x.loose(MIN));
        due("z", x.count(9), 1);
        // 1103527590 >>> 8 is 4310654: diner 2, by 3; 538831, an eighth of it, leaves 1.
        due("loose", x.loose(1), 41 + 41 + 35);
        due("z", x.count(9), 1103527590);
        row("shams", of(0, 0, 1), ofAll(x, 3));
        due("step", x.count(2), 1);
        int z = -2000000000;
        x.seed(z);
        int[] shams = {0, 0, 1};
        for (int i = 0; i < 40; i++) {
            z = z * 1103515245 + 12345;
            long drawn = (z & 0xFFFFFFFFL) / 256;
            shams[(int) (drawn % 3)] = (int) (drawn / 8 % 10);
        }
        x.loose(40);
        row("shams", shams, ofAll(x, 3));
        due("z", x.count(9), z);
        due("step", x.count(2), 41);
        due("had", x.count(4), 41);
        LooksServed y = new LooksServed();
        due("without diners", y.loose(2), 0);
        due("z has gone on twice", y.count(9), 1103527590 * 1103515245 + 12345);
        LooksServed w = shammers(0, 9);
        w.change(0, 3, 1);
        w.change(1, 3, 1);
        w.loose(1);
        row("the gone are drawn for, too", of(1, 9), ofAll(w, 3));
    }

    // ---- what would be

    static void p15_next() {
        LooksServed x = shammers(1, 3, 3, 2, 0, 0, 0, 0);
        due("one", x.next(), 0b10);
        x.waiters(2);
        due("two", x.next(), 0b110);
        x.waiters(4);
        due("four", x.next(), 0b1111);
        for (int i = 0; i < 7; i++) x.change(i, 3, 1);
        due("the last", x.next(), 0b10000000);
        x.change(7, 3, 1);
        due("all are gone", x.next(), 0);
        due("only thought", x.count(2), 0);
        LooksServed y = new LooksServed();
        y.diner(48, 10, 9);
        y.diner(20, 10, 0);
        y.diner(30, 10, 0);
        // 8+9+8-20 = 5; 4; 8-5 = 3
        due("by faces", y.next(), 1);
        y.waiters(2);
        due("by faces", y.next(), 3);
    }

    static void p16_then() {
        LooksServed x = shammers(1, 0);
        write(x, 1, "h>98");
        row("now", of(40, 0, 0), x.then(0, 0, 0), x.then(0, 0, 1), x.then(0, 0, 2));
        row("behind 7", of(5, 7, 47, 0), x.then(7, 0, 0), x.then(7, 0, 1), x.then(7, 1, 0), x.then(7, 1, 1));
        row("behind 60", of(0, 60, 0, 99, 0, 1), x.then(60, 0, 0), x.then(60, 0, 1), x.then(60, 0, 2),
            x.then(60, 1, 0), x.then(60, 1, 1), x.then(60, 1, 2));
        row("about the bill", of(0, 1), x.then(58, 1, 2), x.then(59, 1, 2));
        all("beyond", BEYOND, x.then(61, 0, 0), x.then(-1, 0, 0), x.then(0, 2, 0), x.then(0, -1, 0),
            x.then(0, 0, 3), x.then(0, 0, -1), x.then(MAX, 0, 0), x.then(MIN, 0, 0), x.then(0, MAX, 0));
        row("only thought", of(40, 40), hungers(x));
        due("only thought", x.count(2), 0);
    }

    static void p17_first() {
        LooksServed x = waiting(58);
        row("first", of(1, 4), x.first(0), x.first(1));
        LooksServed y = waiting(2);
        due("sixty", y.first(1), 60);
        LooksServed z = waiting(1);
        due("not by sixty", z.first(1), NONE);
        z.change(0, 3, 1);
        row("gone", of(NONE, 1), z.first(0), z.first(1));
        z.change(1, 2, 99);
        due("no more than 99", z.first(1), NONE);
        z.change(1, 2, 98);
        due("one more", z.first(1), 1);
        all("beyond", BEYOND, z.first(2), z.first(-1), z.first(MAX), z.first(MIN));
        due("only thought", z.count(2), 0);
    }

    static void p18_never() {
        LooksServed x = waiting(2);
        due("all by sixty", x.never(), 0);
        x.change(1, 0, 1);
        due("not 1", x.never(), 0b10);
        x.change(0, 3, 1);
        due("the gone", x.never(), 0b01);
        x.change(1, 2, 99);
        due("no more than 99", x.never(), 0b11);
        LooksServed y = shammers(0, 0, 0, 0, 0, 0, 0, 1);
        due("all but the last", y.never(), 0b01111111);
    }

    static void p19_sham() {
        LooksServed x = shammers(5, 0, 7);
        row("sham", of(7, 7, 6), x.sham(0, 1), x.sham(1, 1), x.sham(2, 60));
        x.change(0, 1, 9);
        row("sham", of(7, NONE, NONE), x.sham(0, 1), x.sham(1, 60), x.sham(2, 1));
        x.waiters(3);
        all("all are served", 0, x.sham(0, 1), x.sham(1, 1), x.sham(2, 60));
        x.change(1, 3, 1);
        due("gone", x.sham(1, 60), NONE);
        all("beyond", BEYOND, x.sham(0, 0), x.sham(0, 61), x.sham(3, 1), x.sham(-1, 1), x.sham(0, MAX),
            x.sham(0, MIN), x.sham(MAX, 1));
        row("only thought", of(9, 0, 7), ofAll(x, 3));
        LooksServed y = waiting(58);
        row("by longer waiting", of(3, 2, 1, 0), y.sham(1, 1), y.sham(1, 2), y.sham(1, 3), y.sham(1, 4));
        due("as it is", y.ofDiner(1, 3), 0);
    }

    static void p20_alike() {
        LooksServed x = shammers(4, 1, 0);
        row("alike", of(0, 1, 5, 5), x.alike(0, 1), x.alike(0b001, 1), x.alike(0b100, 1), x.alike(0b010, 60));
        due("two for one waiter", x.alike(0b110, 60), NONE);
        x.waiters(2);
        row("alike", of(5, 0, 2), x.alike(0b110, 1), x.alike(0b011, 1), x.alike(0b101, 1));
        due("three for two", x.alike(0b111, 60), NONE);
        x.change(2, 3, 1);
        row("gone", of(NONE, 0), x.alike(0b100, 60), x.alike(0b011, 1));
        all("beyond", BEYOND, x.alike(-1, 1), x.alike(8, 1), x.alike(MIN, 1), x.alike(MAX, 1), x.alike(0, 0),
            x.alike(0, 61), x.alike(1, MAX), x.alike(1, MIN));
        row("only thought", of(4, 1, 0), ofAll(x, 3));
        LooksServed y = waiting(58);
        y.diner(0, 55, 0);
        // 2 stands behind 1 until 1 was served four times on end, while 0 comes to 64 unserved.
        row("by turns", of(NONE, NONE, 6, 0), y.alike(0b110, 1), y.alike(0b110, 4), y.alike(0b110, 5),
            y.alike(0b110, 60));
        LooksServed z = shammers(1, 1, 1, 1, 1, 1, 1, 1);
        row("a set of eight", of(NONE, 2, BEYOND), z.alike(255, 60), z.alike(128, 60), z.alike(256, 1));
    }

    static void p21_whose() {
        LooksServed x = shammers(3, 2, 1);
        sheetOf(x, 0, 8, 1, 1, 1);
        sheetOf(x, 1, 16, 3);
        sheetOf(x, 2, 32, 7, 7);
        row("waiters", of(0b10, 0b100, 0b11000), x.whose(0, 0), x.whose(1, 0), x.whose(2, 0));
        row("steps", of(3, 0, 0), x.whose(0, 1), x.whose(1, 1), x.whose(2, 1));
        x.put(0, 1, 3);
        row("one is wrong", of(0, 1), x.whose(0, 0), x.whose(0, 1));
        x.waiters(2);
        row("two waiters", of(0, 0, 1), x.whose(0, 0), x.whose(0, 1), x.whose(1, 1));
        x.sheet(3, 8, 0);
        row("an empty one", of(0b11110, 0), x.whose(3, 0), x.whose(3, 1));
        x.sheet(3, 8, 40);
        row("zeros", of(0, 0), x.whose(3, 0), x.whose(3, 1));
        for (int i = 0; i < 3; i++) x.change(i, 3, 1);
        row("nobody is served", of(0b11110, 40), x.whose(3, 0), x.whose(3, 1));
        x.sheet(3, 0, 0);
        due("missing", x.whose(3, 0), NONE);
        all("beyond", BEYOND, x.whose(4, 0), x.whose(-1, 0), x.whose(0, 2), x.whose(0, -1), x.whose(3, 2),
            x.whose(MAX, 0), x.whose(0, MIN));
        due("only thought", x.count(1), 2);
        LooksServed y = shammers(1, 1, 1, 1, 1, 1, 1, 5);
        sheetOf(y, 0, 8, 128);
        sheetOf(y, 1, 16, 128);
        sheetOf(y, 2, 32, 128 + 256);
        row("the eighth", of(0b10, 0b10, 0), y.whose(0, 0), y.whose(1, 0), y.whose(2, 0));
        LooksServed z = waiting(58);
        sheetOf(z, 0, 8, 1, 1, 1, 2, 1, 1, 1);
        row("as time goes", of(4 + 1, 0), z.whose(0, 1), z.whose(0, 0));
    }

    static void p22_rank() {
        LooksServed x = shammers(1, 3, 3, 2);
        row("ranks", of(3, 0, 1, 2), x.rank(0), x.rank(1), x.rank(2), x.rank(3));
        x.change(1, 3, 1);
        row("ranks", of(2, STATE, 0, 1), x.rank(0), x.rank(1), x.rank(2), x.rank(3));
        all("beyond", BEYOND, x.rank(4), x.rank(-1), x.rank(MAX), x.rank(MIN));
        row("told", of(4, 1), x.told(1), x.told(3));
        x.change(0, 1, 9);
        due("as it is now", x.rank(0), 0);
    }

    static void p23_harm() {
        LooksServed x = shammers(5, 3, 3, 1);
        row("harm", of(0b10, 0b10, 0, 0, 0), x.harm(0, 1), x.harm(0, 60), x.harm(0, 0), x.harm(1, 60),
            x.harm(3, 60));
        x.waiters(2);
        row("harm", of(0b100, 0b100, 0), x.harm(0, 1), x.harm(1, 1), x.harm(2, 1));
        x.change(2, 3, 1);
        row("harm", of(0b1000, 0b1000), x.harm(0, 9), x.harm(1, 9));
        LooksServed y = shammers(3, 1, 5);
        row("harm to the first", of(0b001, 0b001), y.harm(2, 1), y.harm(2, 60));
        all("beyond", BEYOND, x.harm(4, 0), x.harm(-1, 0), x.harm(0, 61), x.harm(0, -1), x.harm(MAX, 0),
            x.harm(0, MAX), x.harm(0, MIN));
        row("only thought", of(5, 3, 3, 1), ofAll(x, 3));
    }

    static void p24_cramps() {
        LooksServed x = shammers(9, 0, 0);
        x.change(1, 0, 47);
        x.change(2, 0, 50);
        row("cramps", of(0, 0, 0, 1, 58), x.cramps(1, 0), x.cramps(1, 1), x.cramps(1, 2), x.cramps(1, 3),
            x.cramps(1, 60));
        row("cramps", of(0, 1, 60, 0), x.cramps(2, 0), x.cramps(2, 1), x.cramps(2, 60), x.cramps(0, 60));
        x.change(0, 0, 62);
        // 57, 52, 47
        due("until fed", x.cramps(0, 60), 2);
        x.change(2, 3, 1);
        due("gone with it", x.cramps(2, 7), 7);
        all("beyond", BEYOND, x.cramps(3, 0), x.cramps(-1, 0), x.cramps(0, 61), x.cramps(0, -1),
            x.cramps(MAX, 0), x.cramps(0, MAX), x.cramps(0, MIN));
        due("only thought", x.count(2), 0);
    }

    static void p25_enough() {
        LooksServed x = shammers(4, 3, 2, 1);
        row("enough", of(1, 4, 4, NONE), x.enough(42, 1), x.enough(41, 1), x.enough(36, 1), x.enough(35, 1));
        row("enough", of(1, NONE, 4, 4), x.enough(41, 0), x.enough(40, 0), x.enough(1, 60), x.enough(99, 60));
        x.change(3, 3, 1);
        row("the gone have hunger", of(3, NONE, 3), x.enough(41, 1), x.enough(40, 1), x.enough(99, 60));
        x.change(2, 0, 10);
        row("enough", of(2, 1), x.enough(41, 1), x.enough(42, 1));
        x.change(0, 0, 80);
        row("the first is hungriest", of(1, NONE, NONE), x.enough(76, 1), x.enough(75, 1), x.enough(74, 1));
        all("beyond", BEYOND, x.enough(0, 1), x.enough(100, 1), x.enough(1, 61), x.enough(1, -1),
            x.enough(-1, 1), x.enough(MAX, 1), x.enough(1, MAX), x.enough(MIN, 1), x.enough(1, MIN));
        due("only thought", x.count(1), 1);
        LooksServed y = new LooksServed();
        row("nobody", of(1, 1), y.enough(1, 0), y.enough(1, 60));
    }

    static void p26_meals() {
        LooksServed x = shammers(1, 2, 3);
        row("meals", of(0, 1, 60), x.meals(0), x.meals(1), x.meals(60));
        x.waiters(2);
        x.change(2, 2, 97);
        row("meals", of(2, 5, 62), x.meals(1), x.meals(3), x.meals(60));
        x.waiters(4);
        due("three at most", x.meals(2), 6);
        x.change(0, 3, 1);
        due("two left", x.meals(2), 4);
        all("beyond", BEYOND, x.meals(61), x.meals(-1), x.meals(MAX), x.meals(MIN));
        due("only thought", x.count(4), 97);
    }

    static void p27_odds() {
        LooksServed x = shammers(5, 0);
        int[] above = {9, 4, 7, 3, 1, 2, 3, 1, 1, 0};
        int[] below = {10, 5, 10, 5, 2, 5, 10, 5, 10, 1};
        for (int sham = 0; sham < 10; sham++) {
            x.change(0, 1, sham);
            row("odds against " + sham, of(above[sham], below[sham]), x.odds(1, 1, 0), x.odds(1, 1, 1));
            row("odds by 60", of(above[sham], below[sham]), x.odds(1, 60, 0), x.odds(1, 60, 1));
        }
        row("no steps", of(0, 1), x.odds(0, 0, 0), x.odds(0, 0, 1));
        row("all", of(1, 1), x.odds(0, 1, 0), x.odds(0, 1, 1));
        all("beyond", BEYOND, x.odds(2, 1, 0), x.odds(-1, 1, 0), x.odds(0, 61, 0), x.odds(0, -1, 0),
            x.odds(0, 1, 2), x.odds(0, 1, -1), x.odds(MAX, 1, 0), x.odds(0, MAX, 0), x.odds(0, 1, MIN));
        row("only thought", of(9, 0), ofAll(x, 3));
        LooksServed y = waiting(58);
        row("by longer waiting", of(7, 10, 9, 10), y.odds(1, 1, 0), y.odds(1, 1, 1), y.odds(1, 3, 0),
            y.odds(1, 3, 1));
    }

    // ---- draws, voices, sheets, images, what is told

    static void p28_seed() {
        LooksServed x = shammers(0, 0);
        row("seed", of(1, MIN, MAX, 0), x.seed(MIN), x.seed(MAX), x.seed(0), x.seed(-1000000001));
        row("any number, no error", of(-1000000001, 0), x.seed(2), x.told(1));
        x.loose(1);
        due("from 2 on", x.seed(0), 2 * 1103515245 + 12345);
    }

    private static LooksServed speaker(int kind) {
        LooksServed x = new LooksServed();
        x.diner(7, 0, 0);
        x.diner(kind * 10 + 3, 0, 0);
        return x;
    }

    private static void voices(int kind, int[] answers, int[] tellsTrace) {
        LooksServed x = speaker(kind);
        row("voices of " + kind, answers, x.voice(1, 0, 4), x.voice(1, 1, 4), x.voice(1, 2, 4), x.voice(1, 3, 4));
        row("trace of " + kind, tellsTrace, trace(x));
        due("its end", x.trace(tellsTrace.length), NONE);
    }

    static void p29_voice() {
        voices(0, of(5, 10, 1, 11), of(13, 11, 10, 12));
        voices(1, of(15, 30, 1, 31), of(13, 11, 20, 10, 12));
        voices(2, of(5, 12, 1, 13), of(13, 30, 11, 10, 12, 12));
        voices(3, of(5, 10, -1, -11), of(13, 11, 10, 40, 12));
        voices(4, of(15, 30, 1, 22), of(50, 13, 11, 20, 10, 12, 20, 10));
        voices(5, of(5, 14, 1, 15), of(13, 60, 30, 11, 10, 12, 12));
        voices(6, of(5, 10, -2, 22), of(71, 11, 10, 13, 11, 10, 70, 40, 12));
        LooksServed x = speaker(1);
        row("round", of(MIN, -6, -2, MAX - 6), x.voice(1, 0, MAX), x.voice(1, 1, MAX - 1), x.voice(0, 1, MAX),
            x.voice(0, 2, MIN));
        due("an answer like an error", x.voice(0, 0, -1000000001), -1000000001);
        due("no error", x.told(1), 0);
        all("beyond", BEYOND, x.voice(2, 0, 0), x.voice(-1, 0, 0), x.voice(0, 4, 0), x.voice(0, -1, 0),
            x.voice(MAX, 0, 0), x.voice(0, MIN, 0));
        row("the trace stays", of(10), trace(x));
    }

    static void p30_trace() {
        LooksServed x = speaker(6);
        due("none", x.trace(0), NONE);
        x.voice(1, 3, 0);
        row("trace", of(71, 11, 10, 13, 11, 10, 70, 40, 12), trace(x));
        x.voice(0, 0, 0);
        row("the latest", of(10), trace(x));
        all("none", NONE, x.trace(1), x.trace(-1), x.trace(40), x.trace(MAX), x.trace(MIN));
        due("told", x.told(2), 6);
    }

    static void p31_sheet() {
        LooksServed x = new LooksServed();
        all("sheet", 1, x.sheet(0, 8, 0), x.sheet(1, 16, 40), x.sheet(2, 32, 1), x.sheet(3, 8, 40));
        all("there", 0, x.shams(0), x.shams(1), x.shams(2), x.shams(3));
        all("beyond", BEYOND, x.sheet(4, 8, 1), x.sheet(-1, 8, 1), x.sheet(0, 1, 1), x.sheet(0, 24, 1),
            x.sheet(0, -8, 1), x.sheet(0, 64, 1), x.sheet(0, 8, 41), x.sheet(0, 8, MAX), x.sheet(MAX, 8, 1));
        all("beyond ahead of state", BEYOND, x.sheet(4, 8, -1), x.sheet(0, 7, -1), x.sheet(-1, 0, -1));
        all("state", STATE, x.sheet(0, 8, -1), x.sheet(1, 16, MIN), x.sheet(2, 32, -41));
        due("left", x.put(1, 39, 1), 1);
        all("missing", 1, x.sheet(1, 0, -1), x.sheet(2, 0, 41), x.sheet(3, 0, MAX));
        all("missing", NONE, x.shams(1), x.shams(2), x.shams(3));
        LooksServed y = shammers(3, 3, 3);
        sheetOf(y, 0, 8, 1, 2, 3);
        y.sheet(0, 8, 3);
        due("all 0", y.shams(0), 3);
        row("all 0", of(0, 0, 0), ofAll(y, 3));
    }

    static void p32_put() {
        LooksServed x = shammers(1, 1);
        x.sheet(0, 8, 2);
        x.sheet(1, 16, 2);
        x.sheet(2, 32, 2);
        all("put", 1, x.put(0, 0, 256 + 7), x.put(0, 1, -256 + 3), x.put(1, 0, 65536 + 6), x.put(1, 1, 256 + 2),
            x.put(2, 0, 5), x.put(2, 1, 65536 + 4));
        due("8 bits", x.shams(0), 2);
        row("8 bits", of(7, 3), ofAll(x, 3));
        due("16 bits", x.shams(1), 1);
        row("16 bits", of(6, 3), ofAll(x, 3));
        due("32 bits", x.shams(2), 1);
        row("32 bits", of(5, 3), ofAll(x, 3));
        all("no such sheet", BEYOND, x.put(4, 0, 0), x.put(-1, 0, 0), x.put(MAX, 0, 0), x.put(MIN, 0, 0));
        all("missing", NONE, x.put(3, 0, 0), x.put(3, 99, 0));
        all("no such number", BEYOND, x.put(0, 2, 0), x.put(0, -1, 0), x.put(0, MAX, 0), x.put(0, MIN, 0));
    }

    static void p33_move() {
        LooksServed x = shammers(0, 0, 0, 0, 0);
        sheetOf(x, 0, 8, 1, 2, 3, 4, 5);
        sheetOf(x, 1, 8, 9, 8, 7);
        sheetOf(x, 2, 16, 6);
        due("up", x.move(0, 0, 0, 1, 4), 4);
        x.shams(0);
        row("as they were", of(1, 1, 2, 3, 4), ofAll(x, 3));
        due("down", x.move(0, 2, 0, 0, 3), 3);
        x.shams(0);
        row("as they were", of(2, 3, 4, 3, 4), ofAll(x, 3));
        due("across", x.move(1, 1, 0, 3, 2), 2);
        x.shams(0);
        row("across", of(2, 3, 4, 8, 7), ofAll(x, 3));
        all("nothing at the ends", 0, x.move(0, 5, 1, 3, 0), x.move(1, 0, 0, 0, 0), x.move(2, 1, 2, 1, 0));
        all("no such sheet", BEYOND, x.move(4, 0, 3, 0, 1), x.move(3, 0, 4, 0, 1), x.move(-1, 0, 0, 0, 1),
            x.move(0, 0, -1, 0, 1));
        all("missing", NONE, x.move(3, 0, 0, 0, 1), x.move(2, 0, 3, 0, 1), x.move(0, -1, 3, 0, -1));
        all("unlike bits", KIND, x.move(0, 0, 2, 0, 1), x.move(2, 9, 0, 0, -1));
        all("beyond", BEYOND, x.move(0, -1, 1, 0, 1), x.move(0, 0, 1, -1, 1), x.move(0, 0, 1, 0, -1),
            x.move(0, 0, 1, 0, 4), x.move(1, 0, 0, 3, 3), x.move(0, 5, 1, 0, 1), x.move(0, 6, 1, 0, 0),
            x.move(1, 1, 0, 0, 3), x.move(0, MAX, 1, 0, 1), x.move(0, 1, 1, MAX, MAX), x.move(0, 1, 1, 1, MAX),
            x.move(0, MAX, 1, MAX, MAX), x.move(0, MIN, 1, MIN, MIN), x.move(0, 0, 1, 4, 0));
        x.shams(1);
        row("left", of(9, 8, 7, 8, 7), ofAll(x, 3));
    }

    static void p34_shams() {
        LooksServed x = shammers(1, 2, 3);
        sheetOf(x, 0, 8, 9, 0);
        sheetOf(x, 1, 16, 4, 10, 5);
        sheetOf(x, 2, 32, 8, 7, 6, 5);
        due("two", x.shams(0), 2);
        row("shams", of(9, 0, 3), ofAll(x, 3));
        due("up to the first wrong one", x.shams(1), 1);
        row("shams", of(4, 0, 3), ofAll(x, 3));
        due("no diner for the fourth", x.shams(2), 3);
        row("shams", of(8, 7, 6), ofAll(x, 3));
        sheetOf(x, 3, 8, -1, 1);
        due("none", x.shams(3), 0);
        sheetOf(x, 3, 32, 3, -1, 1);
        due("one", x.shams(3), 1);
        row("shams", of(3, 7, 6), ofAll(x, 3));
        x.sheet(3, 0, 0);
        due("missing", x.shams(3), NONE);
        all("beyond", BEYOND, x.shams(4), x.shams(-1), x.shams(MAX), x.shams(MIN));
    }

    static void p35_judge() {
        LooksServed x = shammers(4, 2);
        x.diner(30, 60, 3);
        x.change(1, 3, 1);
        // FACES 4, 2 (gone), 3 - 30
        sheetOf(x, 0, 32, 4, 2, -27);
        sheetOf(x, 1, 16, 4, 2, -27);
        sheetOf(x, 2, 8, 4, 2, -27);
        all("so", -1, x.judge(0), x.judge(1), x.judge(2));
        sheetOf(x, 3, 32, 4, 2);
        due("one lacks", x.judge(3), 2);
        sheetOf(x, 3, 32, 4, 2, -27, 0);
        due("one too many", x.judge(3), 3);
        sheetOf(x, 3, 32, 4, 2, 256 - 27);
        due("not so", x.judge(3), 2);
        sheetOf(x, 3, 32, 4, 1, 1);
        due("the first", x.judge(3), 1);
        sheetOf(x, 3, 32, 5);
        due("not so", x.judge(3), 0);
        x.sheet(3, 8, 0);
        due("the first lacks", x.judge(3), 0);
        x.sheet(3, 0, 0);
        due("missing", x.judge(3), NONE);
        all("beyond", BEYOND, x.judge(4), x.judge(-1), x.judge(MAX), x.judge(MIN));
        LooksServed y = new LooksServed();
        y.sheet(0, 8, 0);
        due("nothing of nobody", y.judge(0), -1);
        y.sheet(0, 8, 1);
        due("one too many", y.judge(0), 0);
    }

    static void p36_image() {
        LooksServed x = shammers(1, 2);
        row("image", of(1, 2), x.image(), x.image());
        x.restore();
        due("how often stays", x.image(), 3);
        x.steps(5);
        due("image", x.image(), 4);
        x.steps(5);
        due("the later one", x.restore(), 5);
    }

    static void p37_restore() {
        LooksServed x = new LooksServed();
        due("none", x.restore(), NONE);
        write(x, 0, "0");
        write(x, 1, "h>90");
        x.diner(13, 40, 1);
        x.diner(25, 50, 2);
        x.fills(3, 9);
        x.waiters(2);
        x.steps(4);
        x.change(0, 2, 7);
        x.change(0, 3, 1);
        x.seed(77);
        feed(x, "12");
        x.tell(16 + 21);
        x.tell(16 + 16);
        sheetOf(x, 0, 8, 3, 4);
        x.voice(0, 0, 1);
        x.image();
        x.fills(3, 1);
        x.waiters(1);
        x.steps(3);
        x.change(0, 3, 0);
        x.change(0, 2, 1);
        x.change(0, 0, 1);
        x.change(0, 1, 1);
        x.become(0, 0);
        x.diner(0, 0, 0);
        x.seed(78);
        x.text(0);
        write(x, 1, "0");
        feed(x, "345");
        x.check();
        x.tell(9);
        sheetOf(x, 0, 8, 5, 6);
        x.voice(1, 3, 1);
        x.told(9);
        due("step", x.restore(), 4);
        row("count", of(2, 2, 4, 16 + 26, 7 + 4, 1, 2, 2, 6, 77), x.count(0), x.count(1), x.count(2), x.count(3),
            x.count(4), x.count(5), x.count(6), x.count(7), x.count(8), x.count(9));
        due("filling", x.filling(3), 9);
        row("of 0", of(1, 3, 16, 1, 7, 1, 4), x.ofDiner(0, 0), x.ofDiner(0, 1), x.ofDiner(0, 2), x.ofDiner(0, 3),
            x.ofDiner(0, 4), x.ofDiner(0, 5), x.ofDiner(0, 6));
        row("of 1", of(2, 5, 26, 2, 4, 0, 2), x.ofDiner(1, 0), x.ofDiner(1, 1), x.ofDiner(1, 2), x.ofDiner(1, 3),
            x.ofDiner(1, 4), x.ofDiner(1, 5), x.ofDiner(1, 6));
        row("laws", of(0, 1), x.law(0, 0, 50, 0), x.law(1, 91, 0, 0));
        row("the trace stays", of(13, 30, 11, 10, 12, 12), trace(x));
        due("told stays", x.told(1), 1);
        due("sheets stay", x.shams(0), 2);
        row("sheets stay", of(5, 6), ofAll(x, 3));
        due("the tape", x.text(0), 1);
        due("12", x.law(0, 0, 0, 0), 12);
        due("the image stays", x.restore(), 4);
        row("shams", of(1, 2), ofAll(x, 3));
        due("the text", x.law(0, 0, 50, 0), 0);
        x.steps(2);
        due("the image is apart", x.restore(), 4);
        due("step", x.count(2), 4);
        due("numbers that wait", x.check(), 0);
    }

    static void p38_tell() {
        LooksServed x = new LooksServed();
        for (int i = 1; i <= 20; i++) due("tell", x.tell(i % 2 == 0 ? MIN : MAX), i);
        all("full", FULL, x.tell(0), x.tell(1));
        due("twenty", x.count(7), 20);
        x.check();
        due("none wait", x.tell(5), 1);
    }

    static void p39_check() {
        LooksServed x = shammers(1, 0);
        due("nothing waits", x.check(), 0);
        // 35+41, 30+42, 25+43
        x.tell(76);
        x.tell(72);
        x.tell(68);
        due("all are so", x.check(), 0);
        due("none wait", x.count(7), 0);
        x.tell(76);
        x.tell(72);
        x.tell(69);
        x.tell(64);
        due("the third isn't", x.check(), 3);
        due("none wait", x.count(7), 0);
        x.tell(75);
        due("the first isn't", x.check(), 1);
        due("only thought", x.count(2), 0);
        x.steps(1);
        x.tell(72);
        due("from now on", x.check(), 0);
        for (int n = 2; n <= 21; n++) x.tell(Math.max(0, 40 - 5 * n) + 40 + n);
        due("twenty of them", x.check(), 0);
        for (int n = 2; n <= 20; n++) x.tell(Math.max(0, 40 - 5 * n) + 40 + n);
        x.tell(60);
        due("the twentieth", x.check(), 20);
    }

    static void p40_count() {
        LooksServed x = shammers(1, 2, 3);
        x.waiters(2);
        x.steps(7);
        x.change(0, 3, 1);
        feed(x, "123");
        x.tell(1);
        x.tell(1);
        x.voice(0, 3, 0);
        x.seed(-5);
        row("count", of(3, 2, 7, 47 + 5 + 5, 14, 1, 3, 2, 4, -5), x.count(0), x.count(1), x.count(2), x.count(3),
            x.count(4), x.count(5), x.count(6), x.count(7), x.count(8), x.count(9));
        all("beyond", BEYOND, x.count(-1), x.count(10), x.count(MAX), x.count(MIN));
        x.seed(-1000000001);
        row("z like an error", of(-1000000001, 4), x.count(9), x.told(1));
    }

    static void p41_told() {
        LooksServed x = new LooksServed();
        x.filling(8);
        x.filling(9);
        x.trace(0);
        x.diner(0, 0, 0);
        x.change(0, 3, 1);
        x.rank(0);
        for (int i = 0; i < 24; i++) x.tell(i);
        x.as(0, 1);
        x.as(0, 2);
        x.as(0, 3);
        row("told", of(2, 1, 1, 4, 3), x.told(1), x.told(2), x.told(3), x.told(4), x.told(5));
        all("beyond", BEYOND, x.told(0), x.told(6), x.told(-1), x.told(MAX), x.told(MIN));
        row("counted, too", of(7, 1, 1, 4, 3), x.told(1), x.told(2), x.told(3), x.told(4), x.told(5));
    }

    public static void main(String[] args) {
        test("promise 1", PromiseTest::p1_newObject);
        test("promise 2", PromiseTest::p2_fills);
        test("promise 3", PromiseTest::p3_filling);
        test("promise 4", PromiseTest::p4_waiters);
        test("promise 5", PromiseTest::p5_diner);
        test("promise 6", PromiseTest::p6_ofDiner);
        test("promise 7", PromiseTest::p7_change);
        test("promise 8", PromiseTest::p8_become);
        test("promise 9", PromiseTest::p9_as);
        test("promise 10", PromiseTest::p10_feed);
        test("promise 11", PromiseTest::p11_text);
        test("promise 12", PromiseTest::p12_law);
        test("promise 13", PromiseTest::p13_steps);
        test("promise 14", PromiseTest::p14_loose);
        test("promise 15", PromiseTest::p15_next);
        test("promise 16", PromiseTest::p16_then);
        test("promise 17", PromiseTest::p17_first);
        test("promise 18", PromiseTest::p18_never);
        test("promise 19", PromiseTest::p19_sham);
        test("promise 20", PromiseTest::p20_alike);
        test("promise 21", PromiseTest::p21_whose);
        test("promise 22", PromiseTest::p22_rank);
        test("promise 23", PromiseTest::p23_harm);
        test("promise 24", PromiseTest::p24_cramps);
        test("promise 25", PromiseTest::p25_enough);
        test("promise 26", PromiseTest::p26_meals);
        test("promise 27", PromiseTest::p27_odds);
        test("promise 28", PromiseTest::p28_seed);
        test("promise 29", PromiseTest::p29_voice);
        test("promise 30", PromiseTest::p30_trace);
        test("promise 31", PromiseTest::p31_sheet);
        test("promise 32", PromiseTest::p32_put);
        test("promise 33", PromiseTest::p33_move);
        test("promise 34", PromiseTest::p34_shams);
        test("promise 35", PromiseTest::p35_judge);
        test("promise 36", PromiseTest::p36_image);
        test("promise 37", PromiseTest::p37_restore);
        test("promise 38", PromiseTest::p38_tell);
        test("promise 39", PromiseTest::p39_check);
        test("promise 40", PromiseTest::p40_count);
        test("promise 41", PromiseTest::p41_told);
        finish("PromiseTest");
    }
}
