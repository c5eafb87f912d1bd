/** Promises 10 to 12 at their edges: THE TAPE, which TEXTS there are and where their FAULTS stand, what they give. */
public final class TextEdgeTest extends Checks {
    private static final String FIFTY = "h+h+h+h+h+h+h+h+h+h+h+h+h+h+h+h+h+h+h+h+h+h+h+h+10";

    private static LooksServed fed(int bytes) {
        LooksServed x = new LooksServed();
        for (int left = bytes; left > 0; left -= 8) x.feed(0x3131313131313131L, Math.min(8, left));
        return x;
    }

    private static void tape() {
        test("10: one byte and eight, the lowest first", () -> {
            LooksServed x = new LooksServed();
            due("one", x.feed(0x7777777777777739L, 1), 1);
            row("9", of(1, 9), x.text(0), x.law(0, 0, 0, 0));
            due("eight", x.feed(0x63302B30312B3031L, 8), 8);
            row("10+10+0c", of(-17, 9), x.text(0), x.law(0, 0, 0, 0));
            due("eight", x.feed(0x632B302B312B3031L, 8), 8);
            row("10+1+0+c", of(1, 15), x.text(0), x.law(0, 0, 4, 0));
        });
        test("10: the bytes of a word beyond n stay away", () -> {
            for (int n = 1; n <= 8; n++) {
                LooksServed x = new LooksServed();
                due("feed", x.feed(0x3131313131313131L, n), n);
                row("text", of(n <= 4 ? 1 : -14, 0), x.text(0), x.count(6));
            }
        });
        test("10: a byte of 255 comes as such, one of 0 too", () -> {
            LooksServed x = new LooksServed();
            row("feed", of(8, 10), x.feed(-1L, 8), x.feed(0L, 2));
            row("text", of(-10, 0), x.text(0), x.count(6));
        });
        test("10: 49, 50, FULL", () -> {
            LooksServed x = fed(48);
            row("feed", of(49, 50, FULL, 50), x.feed('1', 1), x.feed('1', 1), x.feed('1', 1), x.count(6));
        });
        for (int n = 1; n <= 8; n++) {
            int bytes = n;
            test("10: " + n + " bytes up to 50, and not to 51", () -> {
                LooksServed x = fed(50 - bytes);
                row("feed", of(50, FULL, 50), x.feed(0x3131313131313131L, bytes), x.feed('1', 1), x.count(6));
                LooksServed y = fed(51 - bytes);
                row("feed", of(FULL, 51 - bytes), y.feed(0x3131313131313131L, bytes), y.count(6));
            });
        }
        test("10: none of a refused word comes, what stands there stays", () -> {
            LooksServed x = new LooksServed();
            due("feed", feed(x, FIFTY.substring(0, 48)), 48);
            due("three where two fit", x.feed('x' | 'x' << 8 | 'x' << 16, 3), FULL);
            due("two", x.feed('1' | '0' << 8, 2), 50);
            row("text", of(1, 34), x.text(0), x.law(0, 1, 0, 0));
        });
        test("10: THE TAPE is taken anew once it is empty", () -> {
            LooksServed x = fed(50);
            row("text", of(-14, 0, 8), x.text(1), x.count(6), x.feed(0x3131313131313131L, 8));
        });
    }

    private static void good(String text) {
        for (int use = 0; use < 2; use++) {
            int its = use;
            test("11: " + text + " is a TEXT of USE " + use, () -> {
                LooksServed x = new LooksServed();
                due("feed", feed(x, text), text.length());
                row("text", of(1, 0, 0), x.text(its), x.count(6), x.told(1));
            });
        }
    }

    private static void fault(String text, int place) {
        for (int use = 0; use < 2; use++) faultOf(use, text, place);
    }

    private static void faultOf(int use, String text, int place) {
        test("11: " + text + " has its FAULT at " + place + ", USE " + use, () -> {
            LooksServed x = new LooksServed();
            due("the one ahead", write(x, use, "h=7"), 1);
            feed(x, text);
            row("text", of(-10 - place, 0), x.text(use), x.count(6));
            row("the one ahead stays", of(1, 0), x.law(use, 7, 0, 0), x.law(use, 8, 0, 0));
            all("no ERROR", 0, x.told(1), x.told(2), x.told(3), x.told(4), x.told(5));
        });
    }

    private static void texts() {
        for (String text : new String[] {"0", "9999", "0000", "h", "c", "!h", "(h)", "((h))", "!(h)", "(!h)", "h|h",
            "h&h", "h<h", "h=h", "h>h", "h+h", "h-h", "h*h", "h/h", "h%h", "1|2|3", "1&2&3", "1+2-3", "1*2/3%4"}) {
            good(text);
        }
        // One comparison in a B, another in the next one, or within brackets.
        for (String text : new String[] {"1<1&1<1", "1<1|1>1", "(1<1)<1", "1<(1<1)", "!(1=1)=1", "1<2&(2=2)>0|3=3"}) {
            good(text);
        }
        // Five open at once, those that are closed not counted.
        for (String text : new String[] {"!!!!!h", "(((((h)))))", "!(!(!h))", "(!(!(h)))", "((((!1+!1))))",
            "(((((h)))))+(((((h)))))", "!!!!!1+!!!!!1", "!!!!!1*!!!!!1", "(1)+(1)+(1)+(1)+(1)+(1)", "!1|!1|!1|!1|!1|!1",
            "((((h))))+!!!!!1"}) {
            good(text);
        }
        good(FIFTY);
        good("1");
        for (int digits = 1; digits <= 4; digits++) good("1+" + "9999".substring(0, digits));
    }

    private static void faults() {
        fault("", 0);
        for (char sign : "|&<=>+-*/%)".toCharArray()) {
            fault("" + sign, 0);
            fault("1+" + sign, 2);
            fault("(" + sign, 1);
            fault("!" + sign, 1);
        }
        for (char sign : "|&<=>+-*/%".toCharArray()) {
            fault("1" + sign, 2);
            fault("h" + sign, 2);
        }
        for (char after : "h0!(".toCharArray()) {
            fault("c" + after, 1);
            fault("(1)" + after, 3);
        }
        for (char after : "h!(".toCharArray()) {
            fault("1" + after, 1);
            fault("9999" + after, 4);
        }
        fault("99999", 4);
        fault("00000", 4);
        fault("1+12345", 6);
        fault("(12345)", 5);
        for (String signs : new String[] {"<<", "<=", "<>", "=<", "==", "=>", "><", ">=", ">>"}) {
            fault("1" + signs.charAt(0) + "1" + signs.charAt(1) + "1", 3);
            fault("1" + signs, 2);
        }
        fault("1<2+3<4", 5);
        fault("1=1&2=2=2", 7);
        fault("(1>2>3)", 4);
        fault("!1<1<1", 4);
        fault("((1<1)<1<1", 8);
        deepFaults();
        endsTooEarly();
        strangeBytes();
        faultOf(0, "f", 0);
        faultOf(0, "c+f", 2);
        faultOf(1, "s", 0);
        faultOf(1, "f+s", 2);
    }

    private static void deepFaults() {
        fault("!!!!!!", 5);
        fault("!!!!!!h", 5);
        fault("((((((", 5);
        fault("((((((h))))))", 5);
        fault("(!(!(!h)))", 5);
        fault("!(!(!(h)))", 5);
        fault("(((((!h)))))", 5);
        fault("!!!!!(h)", 5);
        fault("(((((h+!1)))))", 7);
        fault("(((((1)))))+((((((1", 17);
        fault("!!!!!1+!!!!!!1", 12);
        fault("((((!1+!!1))))", 8);
    }

    private static void endsTooEarly() {
        fault("!", 1);
        fault("!!!!!", 5);
        fault("(", 1);
        fault("(((((", 5);
        fault("(h", 2);
        fault("((h)", 4);
        fault("!(h", 3);
        fault("h+(1|2", 6);
        fault(FIFTY.substring(0, 48), 48);
        fault(FIFTY.substring(0, 48) + "h+", 50);
        fault(FIFTY.substring(0, 48) + "(1", 50);
        fault(FIFTY.substring(0, 48) + "1h", 49);
        fault(FIFTY.substring(0, 48) + "h)", 49);
        fault("(" + FIFTY.substring(0, 48) + "1", 50);
        fault("x" + FIFTY.substring(0, 49), 0);
    }

    private static void strangeBytes() {
        for (char b : new char[] {0, 1, ' ', '\t', '\n', '"', '$', '\'', ',', '.', ':', ';', '?', '@', 'A', 'F', 'H', '[',
            '^', '`', 'a', 'b', 'd', 'g', 'i', 'z', '~', 127, 128, 'h' + 128, '0' + 128, '(' + 128, 255}) {
            fault("" + b, 0);
            fault("h+" + b, 2);
            fault("h" + b, 1);
        }
        fault(" 1", 0);
        fault("1 ", 1);
        fault("1 +1", 1);
        fault("1+ 1", 2);
        fault("h))", 1);
    }

    private static void inPlace() {
        test("11: a TEXT of the one USE leaves the other", () -> {
            LooksServed x = new LooksServed();
            write(x, 0, "5");
            row("laws", of(5, 0), x.law(0, 0, 0, 0), x.law(1, 0, 0, 0));
            write(x, 1, "1");
            row("laws", of(5, 1), x.law(0, 0, 0, 0), x.law(1, 0, 0, 0));
            write(x, 0, "6");
            row("laws", of(6, 1), x.law(0, 0, 0, 0), x.law(1, 0, 0, 0));
        });
        test("11: a shorter TEXT in place of a longer one, and the other way round", () -> {
            LooksServed x = new LooksServed();
            write(x, 0, FIFTY);
            due("fifty", x.law(0, 2, 0, 0), 58);
            write(x, 0, "1");
            due("one", x.law(0, 2, 0, 0), 1);
            write(x, 0, "1+1+1+h");
            due("seven", x.law(0, 2, 0, 0), 5);
        });
        test("11: with a USE of 2 or -1 THE TAPE stays", () -> {
            LooksServed x = new LooksServed();
            feed(x, "77");
            row("text", of(BEYOND, BEYOND, 2, 1, 77), x.text(2), x.text(-1), x.count(6), x.text(0), x.law(0, 0, 0, 0));
        });
    }

    private static void gives(String text, int a, int b, int c, int want) {
        test("12: " + text + " by " + a + ", " + b + ", " + c, () -> {
            LooksServed x = new LooksServed();
            due("text", write(x, 0, text), 1);
            due("law", x.law(0, a, b, c), want);
        });
    }

    /** h is a, c is b, s is c; what is below 0 is held at 0, so it is asked for by = and <. */
    private static void intsGoRound() {
        gives("(h+1)<0", MAX, 0, 0, 1);
        gives("(h+h)=(0-2)", MAX, 0, 0, 1);
        gives("(h+h)=0", MIN, 0, 0, 1);
        gives("(h-1)>0", MIN, 0, 0, 1);
        gives("(0-h)=h", MIN, 0, 0, 1);
        gives("(h*2)=(0-2)", MAX, 0, 0, 1);
        gives("h*c", MAX, MAX, 0, 1);
        gives("h*c", 65536, 65536, 0, 0);
        gives("h*c=h", 65536, 65537, 0, 1);
        gives("h*c<0", 65536, 32768, 0, 1);
        gives("h*c=h", MIN, -1, 0, 1);
        gives("h/c=h", MIN, -1, 0, 1);
        gives("h%c+5", MIN, -1, 0, 5);
        gives("9999*9999>0", 0, 0, 0, 1);
        gives("9999*9999*9999<0", 0, 0, 0, 1);
    }

    private static void quotients() {
        gives("h/c", 7, 2, 0, 3);
        gives("0-h/c", -7, 2, 0, 3);
        gives("0-h/c", 7, -2, 0, 3);
        gives("h/c", -7, -2, 0, 3);
        gives("h/c", 1, 2, 0, 0);
        gives("h/c=0", -1, 2, 0, 1);
        gives("h/c", 6, 2, 0, 3);
        gives("h%c", 7, 2, 0, 1);
        gives("0-h%c", -7, 2, 0, 1);
        gives("h%c", 7, -2, 0, 1);
        gives("0-h%c", -7, -2, 0, 1);
        gives("h%c", 6, 2, 0, 0);
        for (int v : new int[] {MIN, -1, 0, 1, 5, MAX}) {
            gives("h/c+3", v, 0, 0, 3);
            gives("h%c+3", v, 0, 0, 3);
        }
        gives("h/(c-c)*s+1", 5, 5, 9, 1);
    }

    private static void trueOrNot() {
        for (int v : new int[] {MIN, -1, 1, 2, MAX}) {
            gives("h|c", v, 0, 0, 1);
            gives("h|c", 0, v, 0, 1);
            gives("h&c", v, v, 0, 1);
            gives("h&c", v, 0, 0, 0);
            gives("h&c", 0, v, 0, 0);
            gives("!h+4", v, 0, 0, 4);
            gives("!!h", v, 0, 0, 1);
        }
        gives("h|c", 0, 0, 0, 0);
        gives("h|c", 6, 9, 0, 1);
        gives("h&c", 0, 0, 0, 0);
        gives("h&c", 6, 9, 0, 1);
        gives("h&c", 1, 2, 0, 1);
        gives("!h", 0, 0, 0, 1);
        gives("(h<c)+(h>c)+(h|c)+(h&c)+(h=s)+(!s)+5", 0, 0, 9, 5);
        gives("h<c", MIN, MAX, 0, 1);
        gives("h<c", MAX, MIN, 0, 0);
        gives("h<c", 4, 4, 0, 0);
        gives("h<c", 4, 5, 0, 1);
        gives("h=c", 4, 4, 0, 1);
        gives("h=c", 4, 5, 0, 0);
        gives("h=c", 5, 4, 0, 0);
        gives("h>c", 4, 4, 0, 0);
        gives("h>c", 5, 4, 0, 1);
        gives("h>c", MIN, MAX, 0, 0);
        gives("h>c", MAX, MIN, 0, 1);
    }

    private static void whatBindsMore() {
        gives("1|0&0", 0, 0, 0, 1);
        gives("0&0|1", 0, 0, 0, 1);
        gives("2&1=1", 0, 0, 0, 1);
        gives("1=1&2", 0, 0, 0, 1);
        gives("1+1=2", 0, 0, 0, 1);
        gives("2=1+1", 0, 0, 0, 1);
        gives("2+3*4", 0, 0, 0, 14);
        gives("3*4+2", 0, 0, 0, 14);
        gives("20-5-3", 0, 0, 0, 12);
        gives("20-(5-3)", 0, 0, 0, 18);
        gives("20-5+3", 0, 0, 0, 18);
        gives("90/9/2", 0, 0, 0, 5);
        gives("90/(9/2)", 0, 0, 0, 22);
        gives("7*3/2", 0, 0, 0, 10);
        gives("7/2*3", 0, 0, 0, 9);
        gives("17%7*2", 0, 0, 0, 6);
        gives("!1*5+2", 0, 0, 0, 2);
        gives("!0*5+2", 0, 0, 0, 7);
        gives("!(1=2)", 0, 0, 0, 1);
        gives("!1=2", 0, 0, 0, 0);
        gives("(((((7)))))", 0, 0, 0, 7);
        gives("!!!!!7", 0, 0, 0, 0);
        gives("h*10+c*2+s", 5, 7, 9, 73);
    }

    private static void held() {
        int[] given = {MIN, -1, 0, 1, 2, 98, 99, 100, MAX};
        int[] looks = {0, 0, 0, 1, 2, 98, 99, 99, 99};
        int[] bill = {0, 0, 0, 1, 1, 1, 1, 1, 1};
        for (int i = 0; i < given.length; i++) {
            int at = i;
            test("12: held within its ends, of " + given[i], () -> {
                LooksServed x = new LooksServed();
                write(x, 0, "c");
                write(x, 1, "c");
                due("LOOKS", x.law(0, 5, given[at], 5), looks[at]);
                due("BILL", x.law(1, 5, 5, given[at]), bill[at]);
            });
        }
        test("12: NAMES in order", () -> {
            LooksServed x = new LooksServed();
            write(x, 0, "h*16+c*4+s");
            row("LOOKS", of(16, 4, 1, 27), x.law(0, 1, 0, 0), x.law(0, 0, 1, 0), x.law(0, 0, 0, 1), x.law(0, 1, 2, 3));
            write(x, 1, "(h=1)&(f=2)&(c=3)");
            row("BILL", of(1, 0, 0), x.law(1, 1, 2, 3), x.law(1, 2, 1, 3), x.law(1, 1, 3, 2));
        });
        test("12: the greatest NUMBER", () -> {
            LooksServed x = new LooksServed();
            write(x, 1, "h=9999");
            row("law", of(1, 0, 0), x.law(1, 9999, 0, 0), x.law(1, 10000, 0, 0), x.law(1, 9998, 0, 0));
        });
        test("12: without a TEXT LOOKS gives c+9-h/9, within 0 to 99, whatever s", () -> {
            LooksServed x = new LooksServed();
            row("law", of(9, 9, 8, 1, 0, 0), x.law(0, 0, 0, 0), x.law(0, 8, 0, 99), x.law(0, 9, 0, -1),
                x.law(0, 80, 0, MAX), x.law(0, 81, 0, MIN), x.law(0, 90, 0, 0));
            row("law", of(99, 99, 99, 0, 10), x.law(0, 0, 90, 0), x.law(0, 0, 91, 0), x.law(0, -900, 0, 0),
                x.law(0, 0, -10, 0), x.law(0, -9, 0, 0));
            row("round", of(0, 99), x.law(0, 0, MAX, 0), x.law(0, 99, MIN, 0));
        });
        test("12: without a TEXT the BILL gives 0", () -> {
            LooksServed x = new LooksServed();
            row("law", of(0, 0, 0), x.law(1, 1, 1, 1), x.law(1, MAX, MAX, MAX), x.law(1, MIN, MIN, MIN));
        });
        test("12: a law is only asked: it changes nothing", () -> {
            LooksServed x = Restaurants.laden();
            for (int v = -50; v < 50; v++) x.law(v & 1, v, v, v);
            due("all is as it was", Restaurants.probe(x).equals(Restaurants.probe(Restaurants.laden())) ? 1 : 0, 1);
        });
    }

    public static void main(String[] args) {
        tape();
        texts();
        faults();
        inPlace();
        intsGoRound();
        quotients();
        trueOrNot();
        whatBindsMore();
        held();
        finish("TextEdgeTest");
    }
}
