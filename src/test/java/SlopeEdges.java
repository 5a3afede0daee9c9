/** Terms III and promises 15 to 18: forward, backward, twice, difference. */
final class SlopeEdges {
    private static final int MOST = 1000000000;
    private static final int LITTLE_LESS = 999999999;
    private static final int[] NONE_SUCH = {-1, -2, 8, 12, 100, Integer.MIN_VALUE, Integer.MAX_VALUE};
    // a and d stay 0: then the values are small, however steep the slopes are.
    private static final String FIVE = "input a;input d;input b;input c;input e;";
    private static final int A = 0;
    private static final int D = 1;
    private static final int B = 2;
    private static final int C = 3;

    private SlopeEdges() {
    }

    static void all() {
        stepsOnWhichItHangs();
        oneForItZeroForOthers();
        absBelow0();
        minMaxLikeOnes();
        oneOfItZeroOfAllOthers();
        shareZeroPassedOver();
        sharesToTheSame();
        twiceZeroForWhatIsNoStep();
        forwardNumbersOnTheWay();
        forwardNumbersOnTheWayOfQuotients();
        backwardNumbersOnTheWay();
        twiceNumbersOnTheWay();
        twiceNumbersOnTheWayOfQuotients();
        twiceSlopesOnTheWay();
        forwardNoneSuch();
        backwardNoneSuch();
        twiceNoneSuch();
        twicePerhapsOne();
        differenceByH();
        differenceNot0();
        differenceOthersAsInTheLatestRun();
        differenceRunNotWhole();
        differenceNoSuchResult();
        differenceCantBe();
        differenceNoneSuch();
        differenceLatestRunStays();
        asking();
    }

    private static SlopeRunner ran(String text, int... fractions) {
        SlopeRunner x = Check.make(text);
        for (int i = 0; i + 1 < fractions.length; i += 2) {
            x.put(i / 2, fractions[i], fractions[i + 1]);
        }
        x.run();
        return x;
    }

    /** With a and d 0, and b, c, e so much above and below. */
    private static SlopeRunner steep(String sum, int... bce) {
        SlopeRunner x = Check.make(FIVE + "give " + sum + ";");
        for (int i = 0; i + 1 < bce.length; i += 2) {
            x.put(B + i / 2, bce[i], bce[i + 1]);
        }
        Check.due("run of " + sum, x.run(), 0);
        return x;
    }

    private static void stepsOnWhichItHangs() {
        Sentences.of("Terms III", "(FORWARD and TWICE are worked for those STEPS alone on which the RESULT hangs: its own, and a, b of such ones; of min, max the one that it is.)");
        // The slope of 1 / a is none; what does not hang on it has one.
        SlopeRunner x = ran("input a;input b;var v;set v=1/a;give a*2;give min(v,b);give max(v,b);give max(b,v);give min(v,b)*b;give v-v;",
                1, 100000, 7, 1);
        Check.dueForward(x, 0, 0, 2, 1);
        Check.dueTwice(x, 0, 0, 0, 0, 1);
        Check.dueForward(x, 1, 1, 1, 1);
        Check.dueForward(x, 1, 0, 0, 1);
        Check.dueTwice(x, 1, 0, 1, 0, 1);
        Check.dueForward(x, 2, 0, 0, 0);
        Check.dueForward(x, 2, 1, 0, 1);
        Check.dueForward(x, 3, 0, 0, 0);
        Check.dueTwice(x, 3, 0, 0, 0, 0);
        Check.dueForward(x, 4, 1, 14, 1);
        Check.dueTwice(x, 4, 1, 1, 2, 1);
        Check.dueTwice(x, 4, 0, 1, 0, 1);
        Check.dueForward(x, 5, 0, 0, 0);
    }

    private static void oneForItZeroForOthers() {
        Sentences.of("Terms III", "FORWARD from INPUT i: 1 for it, 0 for the other INPUTS, 0, N");
        SlopeRunner x = ran("input a;input b;var v;row r[1];give a;give b;give v;give r[0];give 5;set v=a;give v;", 1, 1, 1, 1);
        int[][] due = {{1, 0}, {0, 1}, {0, 0}, {0, 0}, {0, 0}, {1, 0}};
        for (int r = 0; r < due.length; r++) {
            Check.dueForward(x, r, 0, due[r][0], 1);
            Check.dueForward(x, r, 1, due[r][1], 1);
        }
        SlopeRunner y = ran("input a;input b;input c;input d;input e;input f;input g;input h;give a;give h;give a-h;");
        Check.dueForward(y, 0, 0, 1, 1);
        Check.dueForward(y, 0, 7, 0, 1);
        Check.dueForward(y, 1, 7, 1, 1);
        Check.dueForward(y, 2, 7, -1, 1);
        Check.dueForward(y, 2, 3, 0, 1);
    }

    private static void absBelow0() {
        Sentences.of("Terms III", "abs: p, or 0 - p if a is below 0");
        int[][] tries = {{-1, MOST, -1}, {0, 1, 1}, {1, MOST, 1}, {-MOST, 1, -1}, {MOST, 1, 1}};
        for (int[] each : tries) {
            SlopeRunner x = ran("input a;give abs(a);", each[0], each[1]);
            Check.dueSlope(x, 0, 0, each[2], 1);
            Check.dueTwice(x, 0, 0, 0, 0, 1);
        }
        SlopeRunner y = ran("input a;give abs(a*a-4);", 2, 1);
        Check.dueSlope(y, 0, 0, 4, 1);
        Check.dueTwice(y, 0, 0, 0, 2, 1);
        y.put(0, 1, 1);
        y.run();
        Check.dueSlope(y, 0, 0, -2, 1);
        Check.dueTwice(y, 0, 0, 0, -2, 1);
    }

    private static void minMaxLikeOnes() {
        Sentences.of("Terms III", "min, max: that of the one that it is (of like ones p)");
        String text = "input a;input b;give min(a,b);give max(a,b);give min(b,a);give max(b,a);give min(a*a,b*b);give max(a*a,b*b);";
        int[][] like = {{1, 0}, {1, 0}, {0, 1}, {0, 1}, {6, 0}, {6, 0}};
        int[][] less = {{1, 0}, {0, 1}, {1, 0}, {0, 1}};
        int[][] more = {{0, 1}, {1, 0}, {0, 1}, {1, 0}};
        dueSlopes(ran(text, 3, 1, 3, 1), like);
        dueSlopes(ran(text, LITTLE_LESS, MOST, 1, 1), less);
        dueSlopes(ran(text, 1, 1, LITTLE_LESS, MOST), more);
        SlopeRunner x = ran(text, 3, 1, 3, 1);
        Check.dueTwice(x, 4, 0, 0, 2, 1);
        Check.dueTwice(x, 4, 1, 1, 0, 1);
        Check.dueTwice(x, 5, 0, 0, 2, 1);
        Check.dueTwice(x, 5, 1, 1, 0, 1);
    }

    private static void dueSlopes(SlopeRunner x, int[][] due) {
        for (int r = 0; r < due.length; r++) {
            Check.dueSlope(x, r, 0, due[r][0], 1);
            Check.dueSlope(x, r, 1, due[r][1], 1);
        }
    }

    private static void oneOfItZeroOfAllOthers() {
        Sentences.of("Terms III", "SHARES, 1 of it, 0 of all others");
        SlopeRunner x = ran("input a;input b;var v;give a;give b;give v;give 5;set v=a;give v;give a+b;give 7;", 1, 1, 1, 1);
        int[][] due = {{1, 0}, {0, 1}, {0, 0}, {0, 0}, {1, 0}, {1, 1}, {0, 0}};
        for (int r = 0; r < due.length; r++) {
            Check.dueBackward(x, r, 0, due[r][0], 1);
            Check.dueBackward(x, r, 1, due[r][1], 1);
        }
        // One after the other, and back: nothing of a sweep is left for the next.
        for (int r = due.length - 1; r >= 0; r--) {
            Check.dueBackward(x, r, 0, due[r][0], 1);
        }
    }

    private static void shareZeroPassedOver() {
        Sentences.of("Terms III", "STEPS with SHARE 0 are passed over.");
        // The share of 1 / a is c, and what it hands back to a is VALUE * (c / a), 10 to the 10 times c.
        SlopeRunner x = ran("input a;input b;input c;var v;set v=1/a;give v*c+b;", 1, 100000, 7, 1, 0, 1);
        Check.dueBackward(x, 0, 1, 1, 1);
        Check.dueBackward(x, 0, 0, 0, 1);
        Check.dueBackward(x, 0, 2, 100000, 1);
        x.put(2, 1, 10);
        x.run();
        Check.dueBackward(x, 0, 0, -MOST, 1);
        x.put(2, 101, 1000);
        x.run();
        Check.dueBackward(x, 0, 1, 0, 0);
        SlopeRunner y = ran("input a;input b;var v;set v=1/a;give (v-v)*b+a;", 1, 100000, 0, 1);
        Check.dueBackward(y, 0, 0, 1, 1);
        Check.dueForward(y, 0, 0, 0, 0);
    }

    private static void sharesToTheSame() {
        Sentences.of("Terms III", "(To a: its SHARE becomes that and this.");
        SlopeRunner x = ran("input a;give a+a;give a-a;give a*a;give a/a;give a+a+a*a;", 3, 1);
        int[] due = {2, 0, 6, 0, 8};
        for (int r = 0; r < due.length; r++) {
            Check.dueSlope(x, r, 0, due[r], 1);
        }
    }

    private static void twiceZeroForWhatIsNoStep() {
        Sentences.of("Terms III", "and its TWICE (0 for all that is no STEP)");
        SlopeRunner x = ran("input a;input b;var v;give a;give b;give v;give 5;give a+b;", 4, 1, 5, 1);
        for (int r = 0; r < 5; r++) {
            Check.dueTwice(x, r, 0, 0, 0, 1);
            Check.dueTwice(x, r, 0, 1, 0, 1);
            Check.dueTwice(x, r, 1, 1, 0, 1);
        }
    }

    private static final String ON_THE_WAY = "Where a number on the way would be STUCK, the slope is.";

    private static void dueSteep(String sum, int[] bce, long above, long below) {
        SlopeRunner x = steep(sum, bce);
        Check.about(ON_THE_WAY + " " + sum);
        Check.dueSlope(x, 0, A, above, below);
    }

    private static int[] of(int... bce) {
        return bce;
    }

    private static void forwardNumbersOnTheWay() {
        Sentences.of("Terms III", ON_THE_WAY);
        dueSteep("a*b+a*c", of(LITTLE_LESS, 1, 1, 1), MOST, 1);
        dueSteep("a*b+a*c", of(MOST, 1, 1, 1), 0, 0);
        dueSteep("a*b+a*c", of(-MOST, 1, -1, 1), 0, 0);
        dueSteep("a*b-a*c", of(LITTLE_LESS, 1, -1, 1), MOST, 1);
        dueSteep("a*b-a*c", of(MOST, 1, -1, 1), 0, 0);
        dueSteep("a*b-a*c", of(-LITTLE_LESS, 1, 1, 1), -MOST, 1);
        dueSteep("a*b-a*c", of(-MOST, 1, 1, 1), 0, 0);
        dueSteep("a*b*c", of(31250, 1, 32000, 1), MOST, 1);
        dueSteep("a*b*c", of(1001, 1, 999001, 1), 0, 0);
        dueSteep("a*b*c", of(1, 31250, 1, 32000), 1, MOST);
        dueSteep("a*b*c", of(1, 1001, 1, 999001), 0, 0);
        dueSteep("c*(a*b)", of(31250, 1, -32000, 1), -MOST, 1);
        dueSteep("c*(a*b)", of(1001, 1, -999001, 1), 0, 0);
        dueSteep("(a+b)*(a+c)", of(LITTLE_LESS, 1, 1, 1), MOST, 1);
        dueSteep("(a+b)*(a+c)", of(MOST, 1, 1, 1), 0, 0);
        // In all it would be 0, or pass a min that takes it.
        dueSteep("a*b*c-a*b*c", of(1001, 1, 999001, 1), 0, 0);
        Check.dueForward(steep("a*b*c*0", 1001, 1, 999001, 1), 0, A, 0, 0);
        dueSteep("min(a*b*c,1)", of(1001, 1, 999001, 1), 0, 0);
        dueSteep("abs(a*b*c)", of(1001, 1, 999001, 1), 0, 0);
        // From b there is none on the way.
        Check.dueForward(steep("a*b*c", 1001, 1, 999001, 1), 0, B, 0, 1);
    }

    private static void forwardNumbersOnTheWayOfQuotients() {
        Sentences.of("Terms III", "/ (p - (VALUE * q)) / b");
        dueSteep("c/(a*b+1)", of(31250, 1, 32000, 1), -MOST, 1);
        dueSteep("c/(a*b+1)", of(1001, 1, 999001, 1), 0, 0);
        dueSteep("(a*e+c)/(a*b+1)", of(31250, 1, 32000, 1, 0, 1), -MOST, 1);
        dueSteep("(a*e+c)/(a*b+1)", of(31250, 1, 32000, 1, 1, 1), -LITTLE_LESS, 1);
        dueSteep("(a*e+c)/(a*b+1)", of(31250, 1, 32000, 1, -1, 1), 0, 0);
        dueSteep("a*b/c", of(1, 31250, 32000, 1), 1, MOST);
        dueSteep("a*b/c", of(1, 1001, 999001, 1), 0, 0);
        dueSteep("a*b/c", of(31250, 1, 1, 32000), MOST, 1);
        dueSteep("a*b/c", of(1001, 1, 1, 999001), 0, 0);
    }

    private static void backwardNumbersOnTheWay() {
        Sentences.of("Terms III", ON_THE_WAY);
        // A share of another input is on the way, too.
        Check.dueBackward(steep("a*b*c", 31250, 1, 32000, 1), 0, B, 0, 1);
        Check.dueBackward(steep("a*b*c", 1001, 1, 999001, 1), 0, B, 0, 0);
        // That of c / b to b is 0 - (VALUE * (1 / b)).
        SlopeRunner x = steep("c/b", 1, 1000, 1000, 1);
        Check.dueBackward(x, 0, B, -MOST, 1);
        Check.dueBackward(x, 0, C, 1000, 1);
        SlopeRunner y = steep("c/b", 1, 1001, 999001, 1001);
        Check.dueForward(y, 0, B, 0, 0);
        Check.dueForward(y, 0, C, 1001, 1);
        Check.dueBackward(y, 0, B, 0, 0);
        Check.dueBackward(y, 0, C, 0, 0);
        // And the share of a number, and of 0.
        Check.dueBackward(steep("a*(9000/(b*c))", 1, 3000, 1, 1), 0, A, 27000000, 1);
        SlopeRunner z = ran("input a;input b;give b*(1/9999*a);", 9999, 1, 100010, 1);
        Check.dueBackward(z, 0, 0, 100010, 9999);
        z.put(1, 100011, 1);
        z.run();
        Check.dueForward(z, 0, 0, 33337, 3333);
        Check.dueBackward(z, 0, 0, 0, 0);
    }

    private static void dueTwiceSteep(String sum, int[] bce, long above, long below) {
        SlopeRunner x = steep(sum, bce);
        Check.about(ON_THE_WAY + " " + sum);
        Check.dueTwice(x, 0, A, D, above, below);
        Check.dueTwice(x, 0, D, A, above, below);
    }

    private static void twiceNumbersOnTheWay() {
        Sentences.of("Terms III", ON_THE_WAY);
        dueTwiceSteep("a*d*b+a*d*c", of(LITTLE_LESS, 1, 1, 1), MOST, 1);
        dueTwiceSteep("a*d*b+a*d*c", of(MOST, 1, 1, 1), 0, 0);
        dueTwiceSteep("a*d*b-a*d*c", of(LITTLE_LESS, 1, -1, 1), MOST, 1);
        dueTwiceSteep("a*d*b-a*d*c", of(MOST, 1, -1, 1), 0, 0);
        dueTwiceSteep("a*d*b*c", of(31250, 1, 32000, 1), MOST, 1);
        dueTwiceSteep("a*d*b*c", of(1001, 1, 999001, 1), 0, 0);
        dueTwiceSteep("c*(b*(a*d))", of(31250, 1, 32000, 1), MOST, 1);
        dueTwiceSteep("c*(b*(a*d))", of(1001, 1, 999001, 1), 0, 0);
        dueTwiceSteep("(a*b)*(d*c)", of(31250, 1, 32000, 1), MOST, 1);
        dueTwiceSteep("(a*b)*(d*c)", of(1001, 1, 999001, 1), 0, 0);
        dueTwiceSteep("(a*d*b+a)*(d+1)", of(LITTLE_LESS, 1), MOST, 1);
        dueTwiceSteep("(a*d*b+a)*(d+1)", of(MOST, 1), 0, 0);
        dueTwiceSteep("(d+1)*(a*d*b+a)", of(LITTLE_LESS, 1), MOST, 1);
        dueTwiceSteep("(d+1)*(a*d*b+a)", of(MOST, 1), 0, 0);
        dueTwiceSteep("(a*d*b+1)*(a*d*c+1)", of(LITTLE_LESS, 1, 1, 1), MOST, 1);
        dueTwiceSteep("(a*d*b+1)*(a*d*c+1)", of(MOST, 1, 1, 1), 0, 0);
        dueTwiceSteep("abs(a*d*b*c)", of(1001, 1, 999001, 1), 0, 0);
        dueTwiceSteep("a*d*b*c-a*d*b*c", of(1001, 1, 999001, 1), 0, 0);
    }

    private static void twiceNumbersOnTheWayOfQuotients() {
        Sentences.of("Terms III", "/ (((t - (k * u)) - (m * q)) - (VALUE * w)) / b");
        dueTwiceSteep("(a*b)/(d*c+1)", of(31250, 1, 32000, 1), -MOST, 1);
        dueTwiceSteep("(a*b)/(d*c+1)", of(1001, 1, 999001, 1), 0, 0);
        dueTwiceSteep("(a*d*e+a*b)/(d*c+1)", of(31250, 1, 32000, 1, 0, 1), -MOST, 1);
        dueTwiceSteep("(a*d*e+a*b)/(d*c+1)", of(31250, 1, 32000, 1, 7, 1), -MOST + 7, 1);
        dueTwiceSteep("(a*d*e+a*b)/(d*c+1)", of(31250, 1, 32000, 1, -1, 1), 0, 0);
        dueTwiceSteep("b/(a*d*c+1)", of(31250, 1, 32000, 1), -MOST, 1);
        dueTwiceSteep("b/(a*d*c+1)", of(1001, 1, 999001, 1), 0, 0);
        dueTwiceSteep("(a*d*e+b)/(a*d*c+1)", of(31250, 1, 32000, 1, 0, 1), -MOST, 1);
        dueTwiceSteep("(a*d*e+b)/(a*d*c+1)", of(31250, 1, 32000, 1, -1, 1), 0, 0);
        dueTwiceSteep("a*d*b/c", of(1, 31250, 32000, 1), 1, MOST);
        dueTwiceSteep("a*d*b/c", of(1, 1001, 999001, 1), 0, 0);
    }

    private static void twiceSlopesOnTheWay() {
        Sentences.of("Terms III", "each with its slope from i, that from j, and its TWICE");
        SlopeRunner x = steep("a*b*c", 31250, 1, 32000, 1);
        Check.dueTwice(x, 0, A, A, 0, 1);
        Check.dueTwice(x, 0, A, B, 32000, 1);
        Check.dueTwice(x, 0, A, D, 0, 1);
        SlopeRunner y = steep("a*b*c", 1001, 1, 999001, 1);
        Check.dueTwice(y, 0, A, A, 0, 0);
        Check.dueTwice(y, 0, A, B, 0, 0);
        Check.dueTwice(y, 0, B, A, 0, 0);
        Check.dueTwice(y, 0, A, D, 0, 0);
        Check.dueTwice(y, 0, D, A, 0, 0);
        Check.dueTwice(y, 0, B, B, 0, 1);
        SlopeRunner z = steep("a*b+a*c", MOST, 1, 1, 1);
        Check.dueTwice(z, 0, A, D, 0, 0);
        Check.dueTwice(z, 0, B, D, 0, 1);
        SlopeRunner w = steep("a*b+a*c", LITTLE_LESS, 1, 1, 1);
        Check.dueTwice(w, 0, A, D, 0, 1);
    }

    private static void forwardNoneSuch() {
        Sentences.of("Promise 15", "NO when there are none such, or it is STUCK.");
        SlopeRunner x = Check.make("input a;input b;give a*b;give a;");
        Check.dueForward(x, 0, 0, 0, 0);
        x.run();
        Check.dueForward(x, 1, 1, 0, 1);
        Check.dueForward(x, 2, 0, 0, 0);
        Check.dueForward(x, 0, 2, 0, 0);
        for (int n : NONE_SUCH) {
            Check.dueForward(x, n, 0, 0, 0);
            Check.dueForward(x, 0, n, 0, 0);
        }
        Check.dueForward(steep("a*b*c", 1001, 1, 999001, 1), 0, A, 0, 0);
        Check.dueForward(ran("give 5;"), 0, 0, 0, 0);
    }

    private static void backwardNoneSuch() {
        Sentences.of("Promise 16", "the SHARE of an INPUT from a RESULT; likewise.");
        SlopeRunner x = Check.make("input a;input b;give a*b;give a;");
        Check.dueBackward(x, 0, 0, 0, 0);
        x.run();
        Check.dueBackward(x, 1, 1, 0, 1);
        Check.dueBackward(x, 2, 0, 0, 0);
        Check.dueBackward(x, 0, 2, 0, 0);
        for (int n : NONE_SUCH) {
            Check.dueBackward(x, n, 0, 0, 0);
            Check.dueBackward(x, 0, n, 0, 0);
        }
        Check.dueBackward(ran("give 5;"), 0, 0, 0, 0);
    }

    private static void twiceNoneSuch() {
        Sentences.of("Promise 17", "likewise.");
        SlopeRunner x = Check.make("input a;input b;give a*b;give a;");
        Check.dueTwice(x, 0, 0, 0, 0, 0);
        x.run();
        Check.dueTwice(x, 0, 0, 1, 1, 1);
        Check.dueTwice(x, 1, 1, 1, 0, 1);
        Check.dueTwice(x, 2, 0, 0, 0, 0);
        Check.dueTwice(x, 0, 2, 0, 0, 0);
        Check.dueTwice(x, 0, 0, 2, 0, 0);
        for (int n : NONE_SUCH) {
            Check.dueTwice(x, n, 0, 0, 0, 0);
            Check.dueTwice(x, 0, n, 0, 0, 0);
            Check.dueTwice(x, 0, 0, n, 0, 0);
        }
    }

    private static void twicePerhapsOne() {
        Sentences.of("Promise 17", "TWICE of a RESULT from two INPUTS (perhaps one)");
        SlopeRunner x = ran("input a;input b;give a*a*b;", 3, 1, 5, 1);
        Check.dueTwice(x, 0, 0, 0, 10, 1);
        Check.dueTwice(x, 0, 0, 1, 6, 1);
        Check.dueTwice(x, 0, 1, 0, 6, 1);
        Check.dueTwice(x, 0, 1, 1, 0, 1);
    }

    private static void differenceByH() {
        Sentences.of("Promise 18", "BY DIFFERENCE, by h above / below (as for put(), but not 0)");
        SlopeRunner x = ran("input a;give a;");
        int[][] can = {{MOST, 1}, {-MOST, 1}, {1, MOST}, {-1, MOST}, {MOST, MOST}, {1, 1}, {-1, 1}, {LITTLE_LESS, MOST}};
        for (int[] h : can) {
            Check.dueDifference(x, 0, 0, h[0], h[1], 1, 1);
        }
        int[][] cannot = {{MOST + 1, 1}, {-MOST - 1, 1}, {1, MOST + 1}, {1, 0}, {1, -1}, {-1, -1}, {2 * MOST, 2}, {MOST + 1, MOST + 1},
            {Integer.MIN_VALUE, 1}, {Integer.MAX_VALUE, 1}, {1, Integer.MIN_VALUE}, {1, Integer.MAX_VALUE}};
        for (int[] h : cannot) {
            Check.dueDifference(x, 0, 0, h[0], h[1], 0, 0);
        }
        SlopeRunner y = ran("input a;give a*a;");
        Check.dueDifference(y, 0, 0, 2, 4, 1, 2);
        Check.dueDifference(y, 0, 0, -6, 4, -3, 2);
    }

    private static void differenceNot0() {
        Sentences.of("Promise 18", "but not 0");
        SlopeRunner x = ran("input a;give a;", 1, 1);
        int[] below = {1, 2, MOST, 0, -1};
        for (int n : below) {
            Check.dueDifference(x, 0, 0, 0, n, 0, 0);
        }
    }

    private static void differenceOthersAsInTheLatestRun() {
        Sentences.of("Terms III", "BY DIFFERENCE, with INPUT i more by a number h that is not 0, all others as in the latest RUN");
        SlopeRunner x = ran("input a;input b;give a*a*b;", 3, 1, 5, 1);
        for (int i = 0; i < 3; i++) {
            Check.dueDifference(x, 0, 0, 1, 1, 35, 1);
            Check.dueDifference(x, 0, 1, 1, 2, 9, 1);
            Check.dueDifference(x, 0, 0, -3, 1, 15, 1);
            x.put(i % 2, 8 + i, 1);
        }
        x.run();
        Check.dueDifference(x, 0, 1, 1, 1, 100, 1);
        // An input that the program sets is as it was put, too.
        SlopeRunner y = ran("input a;set a=a+1;give a*a;", 2, 1);
        Check.dueDifference(y, 0, 0, 1, 1, 7, 1);
    }

    private static void differenceRunNotWhole() {
        Sentences.of("Terms III", "STUCK, if that RUN is not WHOLE");
        SlopeRunner x = ran("input a;give a;give 1/(a-3);", 1, 1);
        Check.dueDifference(x, 0, 0, 1, 1, 1, 1);
        Check.dueDifference(x, 0, 0, 2, 1, 0, 0);
        Check.dueDifference(x, 0, 0, 3, 1, 1, 1);
        SlopeRunner y = ran("input n;var k;give n;while k<n{set k=k+1;}set k=k+1;", 498, 1);
        Check.due("steps", y.ran(0), 998);
        Check.dueDifference(y, 0, 0, 1, 1, 1, 1);
        Check.dueDifference(y, 0, 0, 3, 2, 0, 0);
        Check.dueDifference(y, 0, 0, 2, 1, 0, 0);
        SlopeRunner z = ran("input n;var k;give n;while k<n{set k=k+1;}", 498, 1);
        Check.dueDifference(z, 0, 0, 1, 1, 1, 1);
        Check.dueDifference(z, 0, 0, 2, 1, 0, 0);
        // This run may be stuck or long.
        SlopeRunner w = ran("input a;give a*a;give 1/a;while a<0{}");
        Check.dueDifference(w, 0, 0, 2, 1, 2, 1);
        Check.dueDifference(w, 1, 0, 2, 1, 0, 0);
        Check.dueDifference(w, 0, 0, -2, 1, 0, 0);
        w.put(0, -2, 1);
        Check.due("run", w.run(), 2);
        Check.dueDifference(w, 0, 0, 3, 1, -1, 1);
        Check.dueDifference(w, 1, 0, 3, 1, 1, 2);
    }

    private static void differenceNoSuchResult() {
        Sentences.of("Terms III", "has no such RESULT");
        SlopeRunner x = ran("input a;give a;if a<5{give a*3;}", 4, 1);
        Check.dueDifference(x, 1, 0, 1, 2, 3, 1);
        Check.dueDifference(x, 1, 0, 1, 1, 0, 0);
        Check.dueDifference(x, 0, 0, 1, 1, 1, 1);
        x.put(0, 5, 1);
        x.run();
        Check.dueDifference(x, 1, 0, -1, 1, 0, 0);
    }

    private static void differenceCantBe() {
        Sentences.of("Terms III", "or it can't be.");
        // The input itself.
        SlopeRunner x = ran("input a;give 0;", 1, 1);
        Check.dueDifference(x, 0, 0, LITTLE_LESS, 1, 0, 1);
        Check.dueDifference(x, 0, 0, MOST, 1, 0, 0);
        x.put(0, 1, 512);
        x.run();
        Check.dueDifference(x, 0, 0, 1, 1953125, 0, 1);
        x.put(0, 1, 1001);
        x.run();
        Check.dueDifference(x, 0, 0, 1, 999001, 0, 0);
        // The results' difference, and that over h.
        String jump = "input a;input c;input d;if a>0{give c;}else{give d;}";
        Check.dueDifference(ran(jump, 0, 1, LITTLE_LESS, 1, -1, 1), 0, 0, 1, 1, MOST, 1);
        Check.dueDifference(ran(jump, 0, 1, MOST, 1, -1, 1), 0, 0, 2, 1, 0, 0);
        Check.dueDifference(ran(jump, 0, 1, 1, 512, -1, 1953125), 0, 0, 1, 1, 1953637, MOST);
        Check.dueDifference(ran(jump, 0, 1, 1, 1001, -1, 999001), 0, 0, 1, 1, 0, 0);
        Check.dueDifference(ran(jump, 0, 1, 31250, 1, 0, 1), 0, 0, 1, 32000, MOST, 1);
        Check.dueDifference(ran(jump, 0, 1, 1001, 1, 0, 1), 0, 0, 1, 999001, 0, 0);
        Check.dueDifference(ran(jump, 0, 1, 1, 31250, 0, 1), 0, 0, 32000, 1, 1, MOST);
        Check.dueDifference(ran(jump, 0, 1, 1, 1001, 0, 1), 0, 0, 999001, 1, 0, 0);
    }

    private static void differenceNoneSuch() {
        Sentences.of("Promise 18", "likewise.");
        SlopeRunner x = Check.make("input a;input b;give a*b;give a;");
        Check.dueDifference(x, 0, 0, 1, 1, 0, 0);
        x.run();
        Check.dueDifference(x, 1, 1, 1, 1, 0, 1);
        Check.dueDifference(x, 2, 0, 1, 1, 0, 0);
        Check.dueDifference(x, 0, 2, 1, 1, 0, 0);
        for (int n : NONE_SUCH) {
            Check.dueDifference(x, n, 0, 1, 1, 0, 0);
            Check.dueDifference(x, 0, n, 1, 1, 0, 0);
        }
    }

    private static void behind(SlopeRunner x) {
        Check.take(x, "input a;input b;row r[3];give a*a;set r[1]=a/b;give r[1];if a<b{give max(a,b);}while a>9{}");
        x.put(0, 2, 1);
        x.put(1, 3, 1);
        x.run();
        x.groups();
        x.put(1, 4, 1);
        x.put(0, 1, 1);
        x.undo();
        Check.feed(x, "give 1;");
    }

    private static void differenceLatestRunStays() {
        Sentences.of("Promise 18", "(The latest RUN stays.)");
        int[][] calls = {{0, 0, 1, 1}, {1, 1, -3, 1}, {0, 0, 8, 1}, {2, 0, 5, 1}, {0, 0, MOST, 1}, {5, 0, 1, 1}, {0, 0, 0, 1}};
        for (int[] each : calls) {
            Twin.dueUnmoved("difference " + each[0] + " " + each[1] + " " + each[2] + "/" + each[3], SlopeEdges::behind, x -> {
                x.difference(each[0], each[1], each[2], each[3], true);
                x.difference(each[0], each[1], each[2], each[3], false);
            });
        }
    }

    private static void asking() {
        Sentences.of("Promise 15", "the slope of a RESULT from an INPUT");
        Twin.dueUnmoved("asking all there is", SlopeEdges::behind, x -> {
            int[] odd = {0, 1, 2, 3, -1, 7, 8, 12, Integer.MIN_VALUE, Integer.MAX_VALUE};
            for (int r : odd) {
                x.result(r, true);
                x.moves(r);
                x.has(r);
                x.ran(r);
                x.fault(r);
                x.group(r);
                for (int i : odd) {
                    x.forward(r, i, true);
                    x.backward(r, i, false);
                    x.twice(r, i, 1, true);
                    x.ways(r, i);
                    x.again(r, i);
                    x.first(r, i);
                }
            }
            x.near(true);
        });
    }
}
