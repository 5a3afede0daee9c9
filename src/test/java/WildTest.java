/** Calls with any arguments in any state: none may throw, and each answer must be one that can be. */
public final class WildTest {
    private static final int[] ODD = {0, 1, 2, 3, 7, 8, 9, 12, 100, 101, 700, -1, -2, 1000000000, -1000000000, 1000000001,
        Integer.MAX_VALUE, Integer.MIN_VALUE};
    private static final String[] TEXTS = {"input a; input b; give a * b; give a / b; give max(a, b);",
        "while 1 = 1 { give 1; }", "input a; var k; while k < 600 { set k = k + 1; set a = a * a; } give a;",
        "input a; input b; input c; row r [ 3 ]; set r [ a ] = b / c; give r [ 0 ]; give abs(r [ a ]);",
        "", "give", "input a; give (((((((((a", "give 1 / 0;", "input a; input b; give a + b; give a - b; if a < b { give 1 / a; }"};
    private static long seed = 7L;

    private WildTest() {
    }

    public static void main(String[] args) {
        for (int i = 0; i < 400; i++) {
            SlopeRunner x = new SlopeRunner();
            for (int call = 0; call < 512; call++) {
                anyCall(x);
            }
        }
        fullTexts();
        Check.finish();
    }

    private static int pick(int n) {
        seed = seed * 6364136223846793005L + 1442695040888963407L;
        return (int) ((seed >>> 33) % n);
    }

    private static int odd() {
        return pick(3) == 0 ? ODD[pick(ODD.length)] : pick(4);
    }

    private static void anyCall(SlopeRunner x) {
        boolean above = pick(2) == 0;
        switch (pick(26)) {
            case 0:
                within("feed", x.feed(odd(), odd(), odd(), odd(), odd()), -1, 700);
                break;
            case 1:
                x.end(odd());
                break;
            case 2:
            case 3:
            case 4:
                x.end(0);
                Check.feed(x, TEXTS[pick(TEXTS.length)]);
                within("program", x.program(), -1, 80);
                break;
            case 5:
                within("fault", x.fault(odd()), -1, 700);
                break;
            case 6:
                within("has", x.has(odd()), -1, 350);
                break;
            case 7:
                x.undo();
                break;
            case 8:
                x.redo();
                break;
            case 9:
                fraction("input", x.input(odd(), above), above);
                break;
            case 10:
            case 11:
                within("run", x.run(), 0, 2);
                break;
            case 12:
                within("ran", x.ran(odd()), -1, 1359);
                break;
            case 13:
                fraction("result", x.result(odd(), above), above);
                break;
            case 14:
                fraction("near", x.near(above), above);
                break;
            case 15:
                fraction("forward", x.forward(odd(), odd(), above), above);
                break;
            case 16:
                fraction("backward", x.backward(odd(), odd(), above), above);
                break;
            case 17:
                fraction("twice", x.twice(odd(), odd(), odd(), above), above);
                break;
            case 18:
                fraction("difference", x.difference(odd(), odd(), odd(), odd(), above), above);
                break;
            case 19:
                within("moves", x.moves(odd()), -1, 255);
                break;
            case 20:
                within("ways", x.ways(odd(), odd()), -1, 1000000000);
                break;
            case 21:
                within("groups", x.groups(), -1, 8);
                break;
            case 22:
                within("group", x.group(odd()), -1, 7);
                break;
            case 23:
                within("again", x.again(odd(), odd()), -1, 4950);
                within("first", x.first(odd(), odd()), -1, 99);
                break;
            default:
                x.put(odd(), odd(), odd());
                break;
        }
    }

    private static void within(String what, int answer, int least, int most) {
        Check.due(what + " answers " + answer, answer >= least && answer <= most, true);
    }

    private static void fraction(String what, long answer, boolean above) {
        boolean can = above ? Math.abs(answer) <= 1000000000 : answer >= 1 && answer <= 1000000000;
        Check.due(what + " answers " + answer, can || answer == SlopeRunner.NO, true);
    }

    /** Texts that fill the code, the numbers and the stack as far as they go. */
    private static void fullTexts() {
        SlopeRunner x = Check.make("give 1" + Check.times(346, "+1") + ";");
        Check.due("run", x.run(), 0);
        Check.dueResult(x, 0, 347, 1);
        Check.due("tape", x.ran(1), 1 + 347 + 346);
        String deep = "1";
        for (int i = 0; i < 8; i++) {
            deep = "1+2*min(9999,1*" + deep + ")";
        }
        SlopeRunner y = Check.make("give " + deep + ";");
        Check.due("run", y.run(), 0);
        Check.dueResult(y, 0, 511, 1);
        String facts = "2=1";
        for (int i = 0; i < 7; i++) {
            facts = "1=2 or 1=1 and [" + facts + "]";
        }
        SlopeRunner z = Check.make("if " + facts + " or 1 = 2 and not 1+1*(1+1*1) > 4 { give 1; } else { give 2; }");
        Check.due("run", z.run(), 0);
        Check.dueResult(z, 0, 2, 1);
        SlopeRunner w = Check.make("input a;while 1>0{" + "set a=0" + Check.times(330, "*1") + ";}");
        Check.due("run", w.run(), 2);
        Check.due("steps", w.ran(0), 1000);
        Check.due("tape", w.ran(1), 1 + 1 + 333 + 1000 - 4);
    }
}
