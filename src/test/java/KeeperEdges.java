/** Terms IV and promises 23 and 24: again, first. */
final class KeeperEdges {
    private static final int[] NO_ROUNDS = {0, -1, -100, 101, 102, Integer.MIN_VALUE, Integer.MAX_VALUE};
    private static final int[] NO_KEEPERS = {0, -1, -10, 11, 12, Integer.MIN_VALUE, Integer.MAX_VALUE};

    private KeeperEdges() {
    }

    static void all() {
        againOfOneKeeper();
        againOfOneRound();
        againTheLeast();
        firstTheLeast();
        againCantBe();
        firstCantBe();
        firstOfOne();
    }

    private static void againOfOneKeeper() {
        Sentences.of("Terms IV", "AGAIN of n, 1: n (n - 1) / 2");
        SlopeRunner x = new SlopeRunner();
        for (int n = 1; n <= 100; n++) {
            int sum = 0;
            for (int i = 1; i < n; i++) {
                sum += i;
            }
            Check.due("again " + n + " 1", x.again(n, 1), sum);
        }
    }

    private static void againOfOneRound() {
        Sentences.of("Terms IV", "of 1, k: 0");
        SlopeRunner x = new SlopeRunner();
        for (int k = 1; k <= 10; k++) {
            Check.due("again 1 " + k, x.again(1, k), 0);
        }
    }

    /** The document's words as they stand, without rows that are kept. */
    private static int costOf(int m, int n, int k, int[][] known) {
        return m + least(m, k, known) + least(n - m, k - 1, known);
    }

    private static int least(int n, int k, int[][] known) {
        if (k == 1) {
            return n * (n - 1) / 2;
        }
        if (n == 1) {
            return 0;
        }
        if (known[n][k] == 0) {
            int best = Integer.MAX_VALUE;
            for (int m = 1; m <= n - 1; m++) {
                best = Math.min(best, costOf(m, n, k, known));
            }
            known[n][k] = best;
        }
        return known[n][k];
    }

    private static void againTheLeast() {
        Sentences.of("Terms IV", "else the least, over m from 1 to n - 1, of m and AGAIN of m, k and AGAIN of n - m, k - 1.");
        SlopeRunner x = new SlopeRunner();
        // By hand: 4 rounds, 2 keepers: 1 + 0 + 3, 2 + 1 + 1, 3 + 2 + 0.
        int[][] byHand = {{2, 2, 1}, {3, 2, 2}, {4, 2, 4}, {5, 2, 6}, {2, 3, 1}, {3, 3, 2}, {4, 3, 3}, {5, 3, 5}, {2, 10, 1}, {3, 10, 2}};
        for (int[] each : byHand) {
            Check.due("again " + each[0] + " " + each[1], x.again(each[0], each[1]), each[2]);
        }
        int[][] known = new int[101][11];
        for (int n = 2; n <= 100; n++) {
            for (int k = 2; k <= 10; k++) {
                Check.due("again " + n + " " + k, x.again(n, k), least(n, k, known));
            }
        }
    }

    private static void firstTheLeast() {
        Sentences.of("Terms IV", "FIRST: the least such m.");
        SlopeRunner x = new SlopeRunner();
        // 4, 2: 1 and 2 are alike; 5, 2: 2 + 1 + 3 and 3 + 2 + 1 are.
        Check.due("first 4 2", x.first(4, 2), 1);
        Check.due("first 5 2", x.first(5, 2), 2);
        int[][] known = new int[101][11];
        for (int n = 2; n <= 100; n++) {
            for (int k = 2; k <= 10; k++) {
                int m = 1;
                while (costOf(m, n, k, known) != least(n, k, known)) {
                    m++;
                }
                Check.due("first " + n + " " + k, x.first(n, k), m);
            }
        }
    }

    private static void againCantBe() {
        Sentences.of("Promise 23", "AGAIN of n rounds (1 .. 100), k KEEPERS (1 .. 10); NONE when a number can't be.");
        SlopeRunner x = new SlopeRunner();
        Check.due("again 1 1", x.again(1, 1), 0);
        Check.due("again 100 1", x.again(100, 1), 4950);
        Check.due("again 100 10", x.again(100, 10) > 99, true);
        Check.due("again 1 10", x.again(1, 10), 0);
        for (int n : NO_ROUNDS) {
            Check.due("again " + n + " 1", x.again(n, 1), SlopeRunner.NONE);
            Check.due("again " + n + " 5", x.again(n, 5), SlopeRunner.NONE);
        }
        for (int k : NO_KEEPERS) {
            Check.due("again 1 " + k, x.again(1, k), SlopeRunner.NONE);
            Check.due("again 50 " + k, x.again(50, k), SlopeRunner.NONE);
        }
    }

    private static void firstCantBe() {
        Sentences.of("Promise 24", "FIRST; NONE when a number can't be");
        SlopeRunner x = new SlopeRunner();
        Check.due("first 2 2", x.first(2, 2), 1);
        Check.due("first 100 10 is one", x.first(100, 10) >= 1, true);
        Check.due("first 2 10", x.first(2, 10), 1);
        Check.due("first 100 2 is one", x.first(100, 2) >= 1, true);
        for (int n : NO_ROUNDS) {
            Check.due("first " + n + " 2", x.first(n, 2), SlopeRunner.NONE);
        }
        for (int k : NO_KEEPERS) {
            Check.due("first 2 " + k, x.first(2, k), SlopeRunner.NONE);
        }
    }

    private static void firstOfOne() {
        Sentences.of("Promise 24", "or n or k is 1.");
        SlopeRunner x = new SlopeRunner();
        for (int k = 1; k <= 10; k++) {
            Check.due("first 1 " + k, x.first(1, k), SlopeRunner.NONE);
            Check.due("first 2 " + k, x.first(2, k), k == 1 ? SlopeRunner.NONE : 1);
        }
        for (int n = 1; n <= 100; n++) {
            Check.due("first " + n + " 1", x.first(n, 1), SlopeRunner.NONE);
        }
    }
}
