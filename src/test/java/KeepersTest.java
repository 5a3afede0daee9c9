/** Promises 23 and 24: again, first. */
public final class KeepersTest {
    private KeepersTest() {
    }

    public static void main(String[] args) {
        bounds();
        all();
        Check.finish();
    }

    private static void bounds() {
        SlopeRunner x = new SlopeRunner();
        int[][] wrong = {{0, 1}, {101, 1}, {1, 0}, {1, 11}, {-1, 5}, {5, -1}, {Integer.MAX_VALUE, 2},
            {Integer.MIN_VALUE, 2}, {2, Integer.MAX_VALUE}, {2, Integer.MIN_VALUE}};
        for (int[] pair : wrong) {
            Check.due("again " + pair[0] + " " + pair[1], x.again(pair[0], pair[1]), SlopeRunner.NONE);
            Check.due("first " + pair[0] + " " + pair[1], x.first(pair[0], pair[1]), SlopeRunner.NONE);
        }
        Check.due("first 1 5", x.first(1, 5), SlopeRunner.NONE);
        Check.due("first 12 3 of a new one", x.first(12, 3), 4);
        Check.due("first 5 1", x.first(5, 1), SlopeRunner.NONE);
        Check.due("first 1 1", x.first(1, 1), SlopeRunner.NONE);
        Check.due("again 1 10", x.again(1, 10), 0);
        Check.due("again 100 1", x.again(100, 1), 4950);
        Check.due("again 2 10", x.again(2, 10), 1);
        Check.due("first 2 10", x.first(2, 10), 1);
    }

    private static void all() {
        int[][] least = new int[11][101];
        int[][] at = new int[11][101];
        for (int k = 1; k <= 10; k++) {
            for (int n = 1; n <= 100; n++) {
                least[k][n] = n * (n - 1) / 2;
                for (int m = n - 1; m >= 1 && k > 1; m--) {
                    int cost = m + least[k][m] + least[k - 1][n - m];
                    if (m == n - 1 || cost <= least[k][n]) {
                        least[k][n] = cost;
                        at[k][n] = m;
                    }
                }
            }
        }
        SlopeRunner x = new SlopeRunner();
        for (int k = 1; k <= 10; k++) {
            for (int n = 1; n <= 100; n++) {
                Check.due("again " + n + " " + k, x.again(n, k), least[k][n]);
                Check.due("first " + n + " " + k, x.first(n, k), n == 1 || k == 1 ? SlopeRunner.NONE : at[k][n]);
            }
        }
    }
}
