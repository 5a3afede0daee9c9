/** Promises 11 to 14: run, ran, result, near. */
public final class RunTest {
    private static final int WHOLE = 0;
    private static final int STUCK = 1;
    private static final int LONG = 2;

    private RunTest() {
    }

    public static void main(String[] args) {
        sums();
        places();
        rows();
        allPlaces();
        tests();
        stuck();
        bounds();
        longRuns();
        results();
        edgesAndNear();
        latestStands();
        Check.finish();
    }

    private static SlopeRunner ran(String text, int how) {
        SlopeRunner x = Check.make(text);
        Check.due("run of \"" + text + "\"", x.run(), how);
        return x;
    }

    private static void dueRan(SlopeRunner x, int steps, int tape, int results, int edges) {
        Check.due("steps", x.ran(0), steps);
        Check.due("tape", x.ran(1), tape);
        Check.due("results", x.ran(2), results);
        Check.due("edges", x.ran(3), edges);
        Check.due("ran(4)", x.ran(4), SlopeRunner.NONE);
        Check.due("ran(-1)", x.ran(-1), SlopeRunner.NONE);
    }

    private static void sums() {
        SlopeRunner x = ran("give 2 - 3 - 4; give 2 + 3 * 4; give 8 / 4 / 6; give (2 + 3) * 4; give 6 / 4 * 2;"
                + " give abs(3 - 5); give min(3, 2); give max(3, 2); give 7;", WHOLE);
        Check.dueResult(x, 0, -5, 1);
        Check.dueResult(x, 1, 14, 1);
        Check.dueResult(x, 2, 1, 3);
        Check.dueResult(x, 3, 20, 1);
        Check.dueResult(x, 4, 3, 1);
        Check.dueResult(x, 5, 2, 1);
        Check.dueResult(x, 6, 2, 1);
        Check.dueResult(x, 7, 3, 1);
        Check.dueResult(x, 8, 7, 1);
        Check.dueResult(x, 9, 0, 0);
        Check.dueResult(x, -1, 0, 0);
        dueRan(x, 14, 1 + 22 + 14, 9, 0);
    }

    private static void places() {
        SlopeRunner x = Check.make("input a; var v; give v; set v = a; set a = a + 1; give v; give a; set v = v;");
        x.put(0, 5, 3);
        Check.due("run", x.run(), WHOLE);
        Check.dueResult(x, 0, 0, 1);
        Check.dueResult(x, 1, 5, 3);
        Check.dueResult(x, 2, 8, 3);
        Check.dueInput(x, 0, 5, 3);
        dueRan(x, 1, 4, 3, 0);
        Check.due("the same again", x.run(), WHOLE);
        Check.dueResult(x, 2, 8, 3);
    }

    private static void rows() {
        SlopeRunner x = Check.make("input i; row r [ 3 ]; row s [ 2 ]; set r [ i ] = 7; set s [ 1 ] = r [ i ] + 1;"
                + " give r [ 0 ]; give r [ 1 ]; give r [ 2 ]; give s [ 0 ]; give s [ s [ 0 ] + 1 ];");
        x.put(0, 2, 1);
        Check.due("run", x.run(), WHOLE);
        Check.dueResult(x, 0, 0, 1);
        Check.dueResult(x, 1, 0, 1);
        Check.dueResult(x, 2, 7, 1);
        Check.dueResult(x, 3, 0, 1);
        Check.dueResult(x, 4, 8, 1);
        x.put(0, 3, 1);
        Check.due("beyond the row", x.run(), STUCK);
        dueRan(x, 0, 11, 0, 0);
        x.put(0, -1, 1);
        Check.due("ahead of the row", x.run(), STUCK);
        x.put(0, 1, 2);
        Check.due("between places", x.run(), STUCK);
        x.put(0, 1000000000, 1);
        Check.due("far beyond the row", x.run(), STUCK);
        // The sum is worked ahead of the place's own sum: two steps stand when that is stuck.
        SlopeRunner y = ran("row r [ 2 ]; set r [ 1 / 0 ] = 1 + 2 + 3;", STUCK);
        Check.due("steps ahead of the stuck place", y.ran(0), 2);
        SlopeRunner z = ran("row r [ 2 ]; set r [ 1 - 1 ] = 1 / 0;", STUCK);
        Check.due("steps ahead of the stuck sum", z.ran(0), 0);
        // A row's last place, and that no row reaches into the next.
        SlopeRunner w = ran("row a [ 16 ]; row b [ 16 ]; set a [ 15 ] = 1; set b [ 0 ] = 2; give a [ 15 ]; give b [ 0 ];", WHOLE);
        Check.dueResult(w, 0, 1, 1);
        Check.dueResult(w, 1, 2, 1);
        ran("row a [ 15 ]; give a [ 15 ];", STUCK);
    }

    /** As many inputs, vars and rows as there can be, each with places of its own. */
    private static void allPlaces() {
        SlopeRunner x = Check.make("input a;input b;input c;input d;input e;input f;input g;input h;"
                + "var A;var B;var C;var D;var E;var F;var G;var H;var I;var J;var K;var L;"
                + "set A=1;set B=2;set C=3;set D=4;set E=5;set F=6;set G=7;set H=8;set I=9;set J=10;set K=11;set L=12;"
                + "give A;give B-C;give D-E;give F-G;give H-I;give J-K;give L;"
                + "give a-b;give c-d;give e-f;give g;give h;");
        int[] held = {0, 9, 7, 3, 20, 4, 6, 11};
        for (int i = 0; i < 8; i++) {
            x.put(i, held[i], 1);
        }
        Check.due("run", x.run(), WHOLE);
        int[] due = {1, -1, -1, -1, -1, -1, 12, -9, 4, 16, 6, 11};
        for (int r = 0; r < due.length; r++) {
            Check.dueResult(x, r, due[r], 1);
        }
        SlopeRunner y = ran("row p[16];row q[16];row r[16];row s[16];var k;var n;"
                + "while k<16{set p[k]=k;set q[k]=k+20;set r[k]=k+40;set s[k]=k+60;set k=k+1;}set k=0;"
                + "while k<16{if p[k]=k and q[k]=k+20 and r[k]=k+40 and s[k]=k+60{set n=n+1;}set k=k+1;}give n;", WHOLE);
        Check.dueResult(y, 0, 16, 1);
    }

    private static void tests() {
        SlopeRunner x = ran("if 1 < 2 { give 1; } else { give 2; } if 2 < 1 { give 1; } else { give 2; }"
                + " if 1 = 1 and 2 > 3 { give 1; } if 1 = 1 or 2 > 3 { give 3; } if not 1 > 1 { give 4; }"
                + " if not [ 1 = 1 or 1 / 2 = 1 ] { give 5; } if 1 = 2 and 1 = 2 or 1 = 1 { give 6; }"
                + " if 1 = 1 or 1 = 2 and 1 = 2 { give 7; } if not 1 = 1 and 1 = 2 { give 8; }", WHOLE);
        Check.dueResult(x, 0, 1, 1);
        Check.dueResult(x, 1, 2, 1);
        Check.dueResult(x, 2, 3, 1);
        Check.dueResult(x, 3, 4, 1);
        Check.dueResult(x, 4, 6, 1);
        Check.dueResult(x, 5, 7, 1);
        Check.due("results", x.ran(2), 6);
        // All signs of a test are worked, though the first ones settle it.
        Check.due("steps", x.ran(0), 1 + 1 + 2 + 2 + 1 + 3 + 3 + 3 + 2);
        ran("if 1 = 1 or 1 / 0 = 1 { give 1; }", STUCK);
        ran("if 1 = 2 and 1 / 0 = 1 { give 1; }", STUCK);
        SlopeRunner y = ran("var k; var s; while k < 3 { set k = k + 1; }"
                + " while k > 0 { set k = k - 1; if k = 1 { set s = s + 10; } else { set s = s + 1; } } give s;", WHOLE);
        Check.dueResult(y, 0, 12, 1);
    }

    private static void stuck() {
        SlopeRunner x = ran("give 1; give 1 + 1; give 1 / 0; give 2;", STUCK);
        dueRan(x, 1, 1 + 6 + 1, 2, 0);
        Check.dueResult(x, 1, 2, 1);
        Check.dueResult(x, 2, 0, 0);
        ran("give 0 / 0;", STUCK);
        SlopeRunner y = ran("while 1 < 2 { give 3; }", STUCK);
        dueRan(y, 13, 4, 12, 0);
        SlopeRunner z = ran(Check.times(12, "give 1;") + "give 2 + 3;", STUCK);
        dueRan(z, 1, 16, 12, 0);
    }

    private static void bounds() {
        SlopeRunner x = Check.make("input a; input b; give a + b;");
        x.put(0, 999999999, 1);
        x.put(1, 1, 1);
        Check.due("the most", x.run(), WHOLE);
        Check.dueResult(x, 0, 1000000000, 1);
        x.put(1, 2, 1);
        Check.due("more", x.run(), STUCK);
        x.put(0, -999999999, 1);
        x.put(1, -1, 1);
        Check.due("the least", x.run(), WHOLE);
        Check.dueResult(x, 0, -1000000000, 1);
        x.put(1, -2, 1);
        Check.due("less", x.run(), STUCK);
        SlopeRunner y = Check.make("input a; input b; give a * b;");
        y.put(0, 1, 100000);
        y.put(1, 1, 10000);
        Check.due("the smallest", y.run(), WHOLE);
        Check.dueResult(y, 0, 1, 1000000000);
        y.put(1, 1, 10001);
        Check.due("smaller", y.run(), STUCK);
        y.put(0, 1000000000, 999999999);
        y.put(1, 999999999, 1000000000);
        Check.due("large halves that go away", y.run(), WHOLE);
        Check.dueResult(y, 0, 1, 1);
        y.put(0, 0, 1);
        Check.due("nothing of it", y.run(), WHOLE);
        Check.dueResult(y, 0, 0, 1);
        SlopeRunner z = Check.make("input a; input b; give a / b;");
        z.put(0, 3, 4);
        z.put(1, -9, 8);
        Check.due("the sign stands above", z.run(), WHOLE);
        Check.dueResult(z, 0, -2, 3);
        z.put(0, -1000000000, 1);
        z.put(1, -1, 1);
        Check.due("turned", z.run(), WHOLE);
        Check.dueResult(z, 0, 1000000000, 1);
    }

    private static void longRuns() {
        SlopeRunner x = ran("while 1 = 1 { }", LONG);
        dueRan(x, 1000, 3, 0, 1000);
        SlopeRunner y = Check.make("input n; var k; while k < n { set k = k + 1; } give k;");
        y.put(0, 499, 1);
        Check.due("999 steps", y.run(), WHOLE);
        dueRan(y, 999, 1 + 1 + 1 + 499, 1, 1);
        y.put(0, 500, 1);
        Check.due("1001 steps", y.run(), LONG);
        dueRan(y, 1000, 1 + 1 + 1 + 500, 0, 0);
        y.put(0, 999, 2);
        Check.due("1001 steps again", y.run(), LONG);
        // 1000 steps are whole; the 1001st is LONG, though it would be stuck.
        SlopeRunner z = Check.make("input n; var k; var j; while k < n { set k = k + 1; } set j = k + 1; give j; give 1 / (k - k);");
        z.put(0, 499, 1);
        Check.due("the 1001st", z.run(), LONG);
        dueRan(z, 1000, 2 + 3 + 500, 1, 1);
        SlopeRunner w = Check.make("input n; var k; while k < n { set k = k + 1; } give k + 1; give k; give 1;");
        w.put(0, 499, 1);
        Check.due("1000 steps", w.run(), WHOLE);
        dueRan(w, 1000, 2 + 3 + 500, 3, 1);
        // Many statements without a step within a round.
        SlopeRunner v = ran("var a; while 1 = 1 { " + Check.times(75, "set a=a;") + " }", LONG);
        dueRan(v, 1000, 3, 0, 1000);
    }

    private static void results() {
        SlopeRunner x = new SlopeRunner();
        Check.due("ran without a run", x.ran(0), SlopeRunner.NONE);
        Check.dueResult(x, 0, 0, 0);
        Check.take(x, Check.times(12, "give 1;"));
        Check.due("twelve", x.run(), WHOLE);
        Check.dueResult(x, 11, 1, 1);
        Check.dueResult(x, 12, 0, 0);
        Check.dueResult(x, Integer.MAX_VALUE, 0, 0);
        Check.dueResult(x, Integer.MIN_VALUE, 0, 0);
    }

    private static void edgesAndNear() {
        Check.dueNear(ran("give 1 + 2;", WHOLE), 0, 0);
        SlopeRunner x = ran("if 1 < 4 { } give min(1, 3); give max(7, 2 + 1 / 2);", WHOLE);
        Check.dueNear(x, 2, 1);
        Check.due("edges", x.ran(3), 0);
        SlopeRunner y = ran("give abs(1 / 3 - 2 / 3); if 5 > 1 { }", WHOLE);
        Check.dueNear(y, 1, 3);
        SlopeRunner z = ran("give abs(0); give min(2, 4 / 2); give max(3, 3); if 1 < 1 { } if 2 = 2 { } if 3 > 3 { } if 3 > 4 { }", WHOLE);
        Check.dueNear(z, 0, 1);
        Check.due("edges", z.ran(3), 6);
        // A difference that can't be a number is left out.
        SlopeRunner w = Check.make("input a; input b; if a < b { give 1; } give min(a, b);");
        w.put(0, 1000000000, 1);
        w.put(1, -1, 1);
        Check.due("run", w.run(), WHOLE);
        Check.dueNear(w, 0, 0);
        Check.dueResult(w, 0, -1, 1);
        w.put(0, 1, 999999999);
        w.put(1, 1, 1000000000);
        Check.due("run", w.run(), WHOLE);
        Check.dueNear(w, 0, 0);
        Check.dueResult(w, 0, 1, 1000000000);
        // Of a test that the run did not come to, nothing stands.
        SlopeRunner v = ran("if 5 < 9 { } give 1 / 0; if 1 = 1 { }", STUCK);
        Check.dueNear(v, 4, 1);
        Check.due("edges", v.ran(3), 0);
    }

    private static void latestStands() {
        SlopeRunner x = Check.make("input a; give a; if a < 4 { give 2; }");
        x.put(0, 1, 1);
        x.run();
        x.put(0, 9, 1);
        Check.dueResult(x, 0, 1, 1);
        Check.dueNear(x, 3, 1);
        Check.due("results", x.ran(2), 2);
        x.run();
        Check.dueResult(x, 0, 9, 1);
        Check.dueNear(x, 5, 1);
        Check.dueResult(x, 1, 0, 0);
    }
}
