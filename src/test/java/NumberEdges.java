/** Terms I: which numbers there are, and what is STUCK. */
final class NumberEdges {
    private static final int MOST = 1000000000;
    private static final int WHOLE = 0;
    private static final int STUCK = 1;

    private NumberEdges() {
    }

    static void all() {
        above();
        below();
        lowestTerms();
        dividesBy0();
        absMinMaxCanAlwaysBe();
    }

    /** The sum of two inputs, a / b and c / d; below 0 stands for STUCK. */
    private static void due(String sign, int[] of, long above, long below) {
        SlopeRunner x = Check.make("input a; input b; give a " + sign + " b;");
        x.put(0, of[0], of[1]);
        x.put(1, of[2], of[3]);
        String what = of[0] + "/" + of[1] + " " + sign + " " + of[2] + "/" + of[3];
        Check.due("run of " + what, x.run(), below == 0 ? STUCK : WHOLE);
        Check.due("results of " + what, x.ran(2), below == 0 ? 0 : 1);
        Check.due("steps of " + what, x.ran(0), below == 0 ? 0 : 1);
        Check.due("tape of " + what, x.ran(1), below == 0 ? 3 : 4);
        Check.dueResult(x, 0, above, below);
    }

    private static int[] of(int a, int b, int c, int d) {
        return new int[] {a, b, c, d};
    }

    private static void above() {
        Sentences.of("Terms I", "what stands above from -10 to the 9 to 10 to the 9");
        due("+", of(MOST - 1, 1, 1, 1), MOST, 1);
        due("+", of(MOST, 1, 1, 1), 0, 0);
        due("+", of(-MOST + 1, 1, -1, 1), -MOST, 1);
        due("+", of(-MOST, 1, -1, 1), 0, 0);
        due("-", of(MOST - 1, 1, -1, 1), MOST, 1);
        due("-", of(MOST, 1, -1, 1), 0, 0);
        due("-", of(-MOST + 1, 1, 1, 1), -MOST, 1);
        due("-", of(-MOST, 1, 1, 1), 0, 0);
        due("*", of(31250, 1, 32000, 1), MOST, 1);
        due("*", of(1001, 1, 999001, 1), 0, 0);
        due("*", of(-31250, 1, 32000, 1), -MOST, 1);
        due("*", of(1001, 1, -999001, 1), 0, 0);
        due("*", of(MOST, 1, MOST, 1), 0, 0);
        due("*", of(-MOST, 1, -MOST, 1), 0, 0);
        due("/", of(31250, 1, 1, 32000), MOST, 1);
        due("/", of(1001, 1, 1, 999001), 0, 0);
        due("/", of(-31250, 1, 1, 32000), -MOST, 1);
        due("/", of(1001, 1, -1, 999001), 0, 0);
        due("/", of(MOST, 1, -1, 1), -MOST, 1);
        due("/", of(-MOST, 1, -1, 1), MOST, 1);
    }

    private static void below() {
        Sentences.of("Terms I", "below from 1 to 10 to the 9");
        due("+", of(1, 512, 1, 1953125), 1953637, MOST);
        due("+", of(1, 1001, 1, 999001), 0, 0);
        due("-", of(1, 512, 1, 1953125), 1952613, MOST);
        due("-", of(1, 1001, 1, 999001), 0, 0);
        due("*", of(1, 31250, 1, 32000), 1, MOST);
        due("*", of(1, 1001, 1, 999001), 0, 0);
        due("*", of(-1, 31250, 1, 32000), -1, MOST);
        due("*", of(1, MOST, 1, MOST), 0, 0);
        due("/", of(1, 31250, 32000, 1), 1, MOST);
        due("/", of(1, 1001, 999001, 1), 0, 0);
        due("/", of(1, 31250, -32000, 1), -1, MOST);
        due("/", of(1, MOST, MOST, 1), 0, 0);
    }

    private static void lowestTerms() {
        Sentences.of("Terms I", "A NUMBER is a fraction in lowest terms");
        due("+", of(1, 6, 1, 3), 1, 2);
        due("+", of(1, 999999999, 1, 999999999), 2, 999999999);
        due("+", of(MOST, 999999999, -MOST, 999999999), 0, 1);
        due("+", of(1, MOST, 1, MOST), 1, 500000000);
        due("-", of(5, 6, 1, 3), 1, 2);
        due("-", of(MOST, 1, MOST, 1), 0, 1);
        due("-", of(-MOST, 1, -MOST, 1), 0, 1);
        due("-", of(1, 2, 3, 2), -1, 1);
        due("*", of(MOST, 999999999, 999999999, MOST), 1, 1);
        due("*", of(-MOST, 999999999, 999999999, MOST), -1, 1);
        due("*", of(-MOST, 1, -1, MOST), 1, 1);
        due("*", of(0, 1, 1, MOST), 0, 1);
        due("/", of(MOST, 999999999, MOST, 999999999), 1, 1);
        due("/", of(MOST, 1, MOST, 1), 1, 1);
        due("/", of(1, MOST, 1, MOST), 1, 1);
        due("/", of(0, 1, -7, MOST), 0, 1);
        due("/", of(3, 4, -9, 8), -2, 3);
        due("/", of(-3, 4, -9, 8), 2, 3);
    }

    private static void dividesBy0() {
        Sentences.of("Terms I", "(or divides by 0) is STUCK.");
        due("/", of(1, 1, 0, 1), 0, 0);
        due("/", of(0, 1, 0, 1), 0, 0);
        due("/", of(-MOST, 1, 0, 5), 0, 0);
        due("/", of(1, 1, 1, MOST), MOST, 1);
        due("/", of(1, 1, -1, MOST), -MOST, 1);
    }

    private static void absMinMaxCanAlwaysBe() {
        Sentences.of("Terms I", "What is worked out to one that can't be so (or divides by 0) is STUCK.");
        // abs, min and max of numbers are numbers.
        SlopeRunner x = Check.make("input a; input b; give abs(a); give abs(b); give min(a, b); give max(a, b); give max(b, a);");
        x.put(0, -MOST, 1);
        x.put(1, MOST, 1);
        Check.due("run", x.run(), WHOLE);
        int[] due = {MOST, MOST, -MOST, MOST, MOST};
        for (int r = 0; r < due.length; r++) {
            Check.dueResult(x, r, due[r], 1);
        }
        x.put(0, -1, MOST);
        x.put(1, -1, 999999999);
        Check.due("run", x.run(), WHOLE);
        Check.dueResult(x, 0, 1, MOST);
        Check.dueResult(x, 2, -1, 999999999);
        Check.dueResult(x, 3, -1, MOST);
    }
}
