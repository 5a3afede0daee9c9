/** Promises 15 to 18: forward, backward, twice, difference. */
public final class SlopesTest {
    private SlopesTest() {
    }

    public static void main(String[] args) {
        rules();
        turns();
        likeOnes();
        resultsThatAreNoSteps();
        secondSlopes();
        stuckSlopes();
        onlyWhatHangs();
        shares();
        differences();
        nothingThere();
        Check.finish();
    }

    private static SlopeRunner ran(String text, int... fractions) {
        SlopeRunner x = Check.make(text);
        for (int i = 0; i + 1 < fractions.length; i += 2) {
            x.put(i / 2, fractions[i], fractions[i + 1]);
        }
        x.run();
        return x;
    }

    private static void rules() {
        SlopeRunner x = ran("input a; input b; give a + b; give a - b; give a * b; give a / b; give a * a; give 1 / a; give a / a;"
                + " give a * b + a / b - a * 3;", 2, 3, -5, 1);
        Check.dueSlope(x, 0, 0, 1, 1);
        Check.dueSlope(x, 0, 1, 1, 1);
        Check.dueSlope(x, 1, 0, 1, 1);
        Check.dueSlope(x, 1, 1, -1, 1);
        Check.dueSlope(x, 2, 0, -5, 1);
        Check.dueSlope(x, 2, 1, 2, 3);
        Check.dueSlope(x, 3, 0, -1, 5);
        Check.dueSlope(x, 3, 1, -2, 75);
        Check.dueSlope(x, 4, 0, 4, 3);
        Check.dueSlope(x, 4, 1, 0, 1);
        Check.dueSlope(x, 5, 0, -9, 4);
        Check.dueSlope(x, 6, 0, 0, 1);
        Check.dueSlope(x, 7, 0, -41, 5);
        Check.dueSlope(x, 7, 1, 16, 25);
    }

    private static void turns() {
        SlopeRunner x = ran("input a; input b; give abs(a); give abs(b); give abs(0 - a * b); give min(a, b); give max(a, b) * 2;", 3, 1, -2, 1);
        Check.dueSlope(x, 0, 0, 1, 1);
        Check.dueSlope(x, 1, 1, -1, 1);
        Check.dueSlope(x, 2, 0, 2, 1);
        Check.dueSlope(x, 2, 1, -3, 1);
        Check.dueSlope(x, 3, 0, 0, 1);
        Check.dueSlope(x, 3, 1, 1, 1);
        Check.dueSlope(x, 4, 0, 2, 1);
        Check.dueSlope(x, 4, 1, 0, 1);
    }

    private static void likeOnes() {
        SlopeRunner x = ran("input a; input b; give min(a, b); give max(a, b); give abs(a - b); give min(b, a);", 3, 1, 3, 1);
        Check.dueSlope(x, 0, 0, 1, 1);
        Check.dueSlope(x, 0, 1, 0, 1);
        Check.dueSlope(x, 1, 0, 1, 1);
        Check.dueSlope(x, 1, 1, 0, 1);
        Check.dueSlope(x, 2, 0, 1, 1);
        Check.dueSlope(x, 2, 1, -1, 1);
        Check.dueSlope(x, 3, 0, 0, 1);
        Check.dueSlope(x, 3, 1, 1, 1);
    }

    private static void resultsThatAreNoSteps() {
        SlopeRunner x = ran("input a; input b; var v; give a; give b; give v; give 4; set a = b; give a;", 3, 1, 3, 1);
        for (int r = 0; r < 5; r++) {
            boolean fromA = r == 0;
            boolean fromB = r == 1 || r == 4;
            Check.dueSlope(x, r, 0, fromA ? 1 : 0, 1);
            Check.dueSlope(x, r, 1, fromB ? 1 : 0, 1);
            Check.dueTwice(x, r, 0, 1, 0, 1);
        }
    }

    private static void secondSlopes() {
        SlopeRunner x = ran("input a; input b; give a * a * b; give a / b; give 1 / (a * b); give abs(0 - a * b); give max(a * b, 1) - a * a;"
                + " give a * 2 + min(b * b, 99);", 2, 1, 3, 1);
        Check.dueTwice(x, 0, 0, 0, 6, 1);
        Check.dueTwice(x, 0, 0, 1, 4, 1);
        Check.dueTwice(x, 0, 1, 0, 4, 1);
        Check.dueTwice(x, 0, 1, 1, 0, 1);
        Check.dueTwice(x, 1, 0, 0, 0, 1);
        Check.dueTwice(x, 1, 0, 1, -1, 9);
        Check.dueTwice(x, 1, 1, 1, 4, 27);
        Check.dueTwice(x, 2, 0, 0, 1, 12);
        Check.dueTwice(x, 2, 0, 1, 1, 36);
        Check.dueTwice(x, 2, 1, 1, 1, 27);
        Check.dueTwice(x, 3, 0, 1, 1, 1);
        Check.dueTwice(x, 4, 0, 0, -2, 1);
        Check.dueTwice(x, 4, 0, 1, 1, 1);
        Check.dueTwice(x, 5, 1, 1, 2, 1);
        Check.dueTwice(x, 5, 0, 0, 0, 1);
    }

    private static void stuckSlopes() {
        // 1 / a is a number, but its slope -1 / (a * a) is none.
        SlopeRunner x = ran("input a; input b; give 1 / a; give 1 / a + b;", 1, 100000, 7, 1);
        Check.dueResult(x, 0, 100000, 1);
        Check.dueForward(x, 0, 0, 0, 0);
        Check.dueBackward(x, 0, 0, 0, 0);
        Check.dueTwice(x, 0, 0, 0, 0, 0);
        // From b there is a slope; forward finds it, backward is stuck on the way.
        Check.dueForward(x, 1, 1, 1, 1);
        Check.dueBackward(x, 1, 1, 0, 0);
        // A second slope beyond the bounds, with first ones within.
        SlopeRunner y = ran("input a; give 1 / a;", 1, 1001);
        Check.dueSlope(y, 0, 0, -1002001, 1);
        Check.dueTwice(y, 0, 0, 0, 0, 0);
        // TWICE would be 0, but the third step's slope from a, 9999 to the 3, is none.
        SlopeRunner w = ran("input a; input b; give a * 9999 * 9999 * 9999; give b * b + a * 9999 * 9999 * 9999;", 1, 9999, 5, 1);
        Check.dueResult(w, 0, 99980001, 1);
        Check.dueSlope(w, 0, 0, 0, 0);
        Check.dueTwice(w, 0, 0, 0, 0, 0);
        Check.dueTwice(w, 0, 0, 1, 0, 0);
        Check.dueTwice(w, 0, 1, 0, 0, 0);
        Check.dueTwice(w, 0, 1, 1, 0, 1);
        Check.dueTwice(w, 1, 0, 1, 0, 0);
        Check.dueTwice(w, 1, 1, 1, 2, 1);
        // (p * b) + (a * q) is stuck at p * b, though the sum could be.
        SlopeRunner z = ran("input a; give (a * 9999) * (2 - a * 9999);", 100000, 9999);
        Check.dueForward(z, 0, 0, 0, 0);
    }

    private static void onlyWhatHangs() {
        // A step with a stuck slope, on which the result does not hang, is left alone.
        SlopeRunner x = ran("input a; var v; set v = 1 / a; give a * 2; give max(v, 1); give min(v, a);", 1, 100000);
        Check.dueSlope(x, 0, 0, 2, 1);
        Check.dueForward(x, 1, 0, 0, 0);
        Check.dueSlope(x, 2, 0, 1, 1);
        Check.dueTwice(x, 2, 0, 0, 0, 1);
    }

    private static void shares() {
        SlopeRunner x = ran("input a; input b; give b * (2 * a);", 9999, 1, 50000, 1);
        Check.dueForward(x, 0, 1, 19998, 1);
        Check.dueForward(x, 0, 0, 100000, 1);
        Check.dueBackward(x, 0, 0, 100000, 1);
        // The shares of numbers are worked, too: that of 1 / 9999 is 500000000 * 9999.
        SlopeRunner z = ran("input a; input b; give b * ((1 / 9999) * a);", 9999, 1, 500000000, 1);
        Check.dueResult(z, 0, 500000000, 1);
        Check.dueForward(z, 0, 0, 500000000, 9999);
        Check.dueBackward(z, 0, 0, 0, 0);
        // Steps with share 0 are passed over: 0 to 1 / a, whose own shares would be stuck.
        SlopeRunner w = ran("input a; input b; var v; set v = 1 / a; give v * 0 + b; give (v - v) * b;", 1, 100000, 7, 1);
        Check.dueForward(w, 0, 1, 1, 1);
        Check.dueForward(w, 0, 0, 0, 0);
        Check.dueBackward(w, 0, 1, 1, 1);
        Check.dueBackward(w, 0, 0, 0, 1);
        Check.dueForward(w, 1, 1, 0, 1);
        Check.dueBackward(w, 1, 1, 0, 1);
    }

    private static void differences() {
        SlopeRunner x = ran("input a; input b; give a * a; if a < 5 { give b; } give 1 / (a - 7);", 3, 1, 2, 1);
        Check.dueDifference(x, 0, 0, 1, 1, 7, 1);
        Check.dueDifference(x, 0, 0, -2, 4, 11, 2);
        Check.dueDifference(x, 0, 1, 1, 1, 0, 1);
        Check.dueDifference(x, 1, 1, 5, 1, 1, 1);
        Check.dueDifference(x, 1, 0, 2, 1, -5, 4);
        Check.dueDifference(x, 2, 0, 2, 1, 0, 0);
        Check.dueDifference(x, 0, 0, 4, 1, 0, 0);
        Check.dueDifference(x, 0, 0, 1000000000, 1, 0, 0);
        Check.dueDifference(x, 0, 0, 0, 5, 0, 0);
        Check.dueDifference(x, 0, 0, 1, 0, 0, 0);
        Check.dueDifference(x, 0, 0, 1, -1, 0, 0);
        Check.dueDifference(x, 0, 0, 1000000001, 1, 0, 0);
        Check.dueDifference(x, 0, 0, -1000000001, 1, 0, 0);
        Check.dueDifference(x, 0, 0, 1, 1000000001, 0, 0);
        Check.dueDifference(x, 3, 0, 1, 1, 0, 0);
        Check.dueDifference(x, 0, 2, 1, 1, 0, 0);
        Check.dueDifference(x, -1, 0, 1, 1, 0, 0);
        Check.dueDifference(x, 0, -1, 1, 1, 0, 0);
        // The latest run stays, and it alone counts, not what is put since.
        x.put(0, 6, 1);
        x.put(1, 9, 1);
        Check.dueDifference(x, 1, 1, 5, 1, 1, 1);
        Check.dueDifference(x, 0, 0, 1, 1, 7, 1);
        Check.dueResult(x, 0, 9, 1);
        Check.due("steps", x.ran(0), 4);
        Check.dueSlope(x, 0, 0, 6, 1);
        Check.dueInput(x, 0, 6, 1);
        // The quotient can't be, and the other run is LONG.
        SlopeRunner y = ran("input a; give a * 9999; give a;", 1, 1);
        Check.dueDifference(y, 0, 0, 1, 1000000000, 0, 0);
        Check.dueDifference(y, 1, 0, 1, 3, 1, 1);
        SlopeRunner z = ran("input n; var k; while k < n { set k = k + 1; } give k;", 499, 1);
        Check.dueDifference(z, 0, 0, 1, 1, 0, 0);
        Check.dueDifference(z, 0, 0, -1, 1, 1, 1);
        // This run is stuck behind its result, the other one is whole.
        SlopeRunner w = ran("input a; give a + 1; give 1 / a;", 0, 1);
        Check.dueDifference(w, 0, 0, 1, 2, 1, 1);
        Check.dueDifference(w, 1, 0, 1, 2, 0, 0);
    }

    private static void nothingThere() {
        SlopeRunner x = Check.make("input a; give a;");
        Check.dueSlope(x, 0, 0, 0, 0);
        Check.dueTwice(x, 0, 0, 0, 0, 0);
        Check.dueDifference(x, 0, 0, 1, 1, 0, 0);
        x.run();
        int[] odd = {1, -1, 8, 12, 1000000, Integer.MAX_VALUE, Integer.MIN_VALUE};
        for (int n : odd) {
            Check.dueSlope(x, n, 0, 0, 0);
            Check.dueSlope(x, 0, n, 0, 0);
            Check.dueTwice(x, n, 0, 0, 0, 0);
            Check.dueTwice(x, 0, n, 0, 0, 0);
            Check.dueTwice(x, 0, 0, n, 0, 0);
        }
    }
}
