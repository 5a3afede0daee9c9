/** Promises 7 to 10: put, undo, redo, input. */
final class InputEdges {
    private static final int MOST = 1000000000;
    private static final String THREE = "input a; input b; input c; give a + b * c;";

    private InputEdges() {
    }

    static void all() {
        putAbove();
        putBelow();
        putLowestTerms();
        putNoSuchInput();
        putRefusedDoesNothing();
        putNothingToRedo();
        putFortyCanBeUndone();
        putTheLatestForty();
        undoTheLatest();
        undoNone();
        undoMoreThanForty();
        redoTheLatest();
        redoNone();
        inputAsPut();
        inputNoneSuch();
    }

    private static SlopeRunner three() {
        return Check.make(THREE);
    }

    private static void putAbove() {
        Sentences.of("Promise 7", "above -10 to the 9 .. 10 to the 9");
        int[] can = {-MOST, -MOST + 1, -1, 0, 1, MOST - 1, MOST};
        int[] cannot = {-MOST - 1, MOST + 1, -2 * MOST, 2 * MOST, Integer.MIN_VALUE, Integer.MAX_VALUE};
        for (int n : can) {
            SlopeRunner x = three();
            Check.due("put " + n, x.put(1, n, 1), true);
            Check.dueInput(x, 1, n, 1);
        }
        for (int n : cannot) {
            SlopeRunner x = three();
            Check.due("put " + n, x.put(1, n, 1), false);
            Check.due("put " + n + " / 2", x.put(1, n, 2), false);
            Check.due("put " + n + " / 10 to the 9", x.put(1, n, MOST), false);
            Check.dueInput(x, 1, 0, 1);
        }
    }

    private static void putBelow() {
        Sentences.of("Promise 7", "below 1 .. 10 to the 9");
        int[] can = {1, 2, MOST - 1, MOST};
        int[] cannot = {0, -1, -2, -MOST, MOST + 1, 2 * MOST, Integer.MIN_VALUE, Integer.MAX_VALUE};
        for (int n : can) {
            SlopeRunner x = three();
            Check.due("put 1 / " + n, x.put(1, 1, n), true);
            Check.dueInput(x, 1, 1, n);
        }
        for (int n : cannot) {
            SlopeRunner x = three();
            Check.due("put 1 / " + n, x.put(1, 1, n), false);
            Check.due("put 0 / " + n, x.put(1, 0, n), false);
            Check.due("put -4 / " + n, x.put(1, -4, n), false);
            Check.dueInput(x, 1, 0, 1);
        }
    }

    private static void putLowestTerms() {
        Sentences.of("Promise 7", "brought to lowest terms");
        int[][] terms = {{6, 4, 3, 2}, {-6, 4, -3, 2}, {0, 1, 0, 1}, {0, MOST, 0, 1}, {MOST, MOST, 1, 1}, {-MOST, MOST, -1, 1},
            {MOST, 999999999, MOST, 999999999}, {-999999998, 999999999, -999999998, 999999999}, {MOST, 512, 1953125, 1},
            {1953125, MOST, 1, 512}, {7, 7, 1, 1}, {7, 14, 1, 2}, {999999000, 999, 1001000, 1}};
        for (int[] each : terms) {
            SlopeRunner x = three();
            Check.due("put " + each[0] + " / " + each[1], x.put(2, each[0], each[1]), true);
            Check.dueInput(x, 2, each[2], each[3]);
        }
    }

    private static void putNoSuchInput() {
        Sentences.of("Promise 7", "false when something can't be");
        int[] none = {3, 4, 8, -1, Integer.MIN_VALUE, Integer.MAX_VALUE};
        for (int i : none) {
            Check.due("put to " + i, three().put(i, 1, 1), false);
        }
        for (int i = 0; i < 3; i++) {
            Check.due("put to " + i, three().put(i, 1, 1), true);
        }
        Check.due("put without inputs", new SlopeRunner().put(0, 1, 1), false);
        SlopeRunner x = Check.make("input a;input b;input c;input d;input e;input f;input g;input h;var v;");
        Check.due("put to the eighth", x.put(7, 5, 1), true);
        Check.dueInput(x, 7, 5, 1);
        Check.due("put to a var", x.put(8, 5, 1), false);
    }

    private static void someBehind(SlopeRunner x) {
        Check.take(x, THREE);
        x.put(0, 1, 2);
        x.put(1, 5, 3);
        x.run();
        x.groups();
        x.put(2, 7, 1);
        x.put(0, 8, 1);
        x.undo();
        Check.feed(x, "give 1;");
    }

    private static void putRefusedDoesNothing() {
        Sentences.of("Promise 7", "false when something can't be");
        int[][] wrong = {{3, 1, 1}, {-1, 1, 1}, {0, MOST + 1, 1}, {0, -MOST - 1, 1}, {0, 1, 0}, {0, 1, MOST + 1}, {1, 0, -1}};
        for (int[] each : wrong) {
            Twin.dueUnmoved("put " + each[0] + ", " + each[1] + " / " + each[2], InputEdges::someBehind,
                    x -> x.put(each[0], each[1], each[2]));
        }
    }

    private static void putNothingToRedo() {
        Sentences.of("Promise 7", "There is nothing to redo() then");
        for (int undone = 1; undone <= 3; undone++) {
            SlopeRunner x = three();
            for (int i = 1; i <= 3; i++) {
                x.put(i - 1, i, 1);
            }
            for (int i = 0; i < undone; i++) {
                x.undo();
            }
            // Even what is put as it was, or as it would be redone.
            int again = 3 - undone;
            Check.due("put", x.put(again, again + 1, 1), true);
            Check.due("redo", x.redo(), false);
            Check.dueInput(x, again, again + 1, 1);
            Check.due("undo", x.undo(), true);
            Check.dueInput(x, again, 0, 1);
            Check.due("redo of the new one", x.redo(), true);
            Check.due("redo of what was there", x.redo(), false);
        }
    }

    /** As many puts, then as many undos as answer true. */
    private static int undoneOf(SlopeRunner x, int puts) {
        for (int i = 1; i <= puts; i++) {
            x.put(i % 3, i, 1);
        }
        int undone = 0;
        while (undone < 100 && x.undo()) {
            undone++;
        }
        return undone;
    }

    private static void putFortyCanBeUndone() {
        Sentences.of("Promise 7", "40 can be undone, the latest.");
        for (int puts = 38; puts <= 43; puts++) {
            Check.due("undone of " + puts, undoneOf(three(), puts), Math.min(puts, 40));
        }
        Check.due("undone of 120", undoneOf(three(), 120), 40);
    }

    private static void putTheLatestForty() {
        Sentences.of("Promise 7", "the latest");
        for (int puts = 39; puts <= 45; puts++) {
            SlopeRunner x = three();
            undoneOf(x, puts);
            int left = Math.max(0, puts - 40);
            for (int i = 0; i < 3; i++) {
                int last = 0;
                for (int k = 1; k <= left; k++) {
                    last = k % 3 == i ? k : last;
                }
                Check.dueInput(x, i, last, 1);
            }
        }
    }

    private static void undoTheLatest() {
        Sentences.of("Promise 8", "The latest put() that is not undone is: true");
        SlopeRunner x = three();
        x.put(0, 1, 1);
        x.put(0, 2, 1);
        x.put(1, 3, 1);
        Check.due("undo", x.undo(), true);
        Check.dueInput(x, 0, 2, 1);
        Check.dueInput(x, 1, 0, 1);
        Check.due("undo", x.undo(), true);
        Check.dueInput(x, 0, 1, 1);
        x.put(2, 9, 1);
        Check.due("undo of the new one", x.undo(), true);
        Check.dueInput(x, 2, 0, 1);
        Check.dueInput(x, 0, 1, 1);
        Check.due("undo", x.undo(), true);
        Check.dueInput(x, 0, 0, 1);
        Check.due("undo", x.undo(), false);
        Check.due("a like put", x.put(0, 0, 5), true);
        Check.due("is undone, too", x.undo(), true);
        Check.due("and then none", x.undo(), false);
    }

    private static void undoNone() {
        Sentences.of("Promise 8", "false when there is none");
        Check.due("undo of a new one", new SlopeRunner().undo(), false);
        Check.due("undo without puts", three().undo(), false);
        SlopeRunner x = three();
        x.put(5, 1, 1);
        Check.due("undo of a refused put", x.undo(), false);
        x.put(0, 1, 1);
        Check.due("undo", x.undo(), true);
        Check.due("undo", x.undo(), false);
        Check.due("redo is still there", x.redo(), true);
        Twin.dueUnmoved("undo without puts", y -> Check.take(y, THREE), SlopeRunner::undo);
        Twin.dueUnmoved("undo of all puts and one", y -> {
            someBehind(y);
            y.undo();
            y.undo();
            y.undo();
        }, SlopeRunner::undo);
    }

    private static void undoMoreThanForty() {
        Sentences.of("Promise 8", "(or more than 40 behind)");
        SlopeRunner x = three();
        Check.due("undone", undoneOf(x, 41), 40);
        Check.due("undo of the 41st behind", x.undo(), false);
        Check.dueInput(x, 1, 1, 1);
        Check.due("redo is still there", x.redo(), true);
        Check.dueInput(x, 2, 2, 1);
        Twin.dueUnmoved("undo of the 41st behind", y -> {
            Check.take(y, THREE);
            undoneOf(y, 41);
        }, SlopeRunner::undo);
        // What is undone and done again still counts as forty.
        int redone = 1;
        while (redone < 100 && x.redo()) {
            redone++;
        }
        Check.due("redone", redone, 40);
        x.put(0, 99, 1);
        int undone = 0;
        while (undone < 100 && x.undo()) {
            undone++;
        }
        Check.due("undone", undone, 40);
        Check.dueInput(x, 1, 1, 1);
        Check.dueInput(x, 2, 2, 1);
    }

    private static void redoTheLatest() {
        Sentences.of("Promise 9", "The latest that was undone is not: true");
        SlopeRunner x = three();
        x.put(0, 1, 1);
        x.put(1, 2, 1);
        x.put(0, 3, 1);
        x.undo();
        x.undo();
        Check.due("redo", x.redo(), true);
        Check.dueInput(x, 1, 2, 1);
        Check.dueInput(x, 0, 1, 1);
        Check.due("redo", x.redo(), true);
        Check.dueInput(x, 0, 3, 1);
        Check.due("undo of what was redone", x.undo(), true);
        Check.dueInput(x, 0, 1, 1);
        SlopeRunner y = three();
        undoneOf(y, 45);
        for (int i = 6; i <= 45; i++) {
            Check.due("redo", y.redo(), true);
            Check.dueInput(y, i % 3, i, 1);
        }
        Check.due("redo of the 41st", y.redo(), false);
    }

    private static void redoNone() {
        Sentences.of("Promise 9", "false when there is none.");
        Check.due("redo of a new one", new SlopeRunner().redo(), false);
        SlopeRunner x = three();
        Check.due("redo without puts", x.redo(), false);
        x.put(0, 1, 1);
        Check.due("redo without undo", x.redo(), false);
        x.undo();
        x.undo();
        Check.due("redo", x.redo(), true);
        Check.due("redo", x.redo(), false);
        Check.dueInput(x, 0, 1, 1);
        Twin.dueUnmoved("redo without undo", y -> {
            someBehind(y);
            y.redo();
        }, SlopeRunner::redo);
        Twin.dueUnmoved("redo without puts", y -> Check.take(y, THREE), SlopeRunner::redo);
    }

    private static void inputAsPut() {
        Sentences.of("Promise 10", "An INPUT as it is put: what stands above (true), or below");
        SlopeRunner x = Check.make("input a; input b; set a = 9; give a;");
        Check.dueInput(x, 0, 0, 1);
        x.put(0, -5, 10);
        Check.dueInput(x, 0, -1, 2);
        x.run();
        Check.dueInput(x, 0, -1, 2);
        x.difference(0, 0, 1, 1, true);
        Check.dueInput(x, 0, -1, 2);
        Check.dueInput(x, 1, 0, 1);
    }

    private static void inputNoneSuch() {
        Sentences.of("Promise 10", "NO when there is none such.");
        SlopeRunner x = three();
        int[] none = {3, 4, 8, 100, -1, Integer.MIN_VALUE, Integer.MAX_VALUE};
        for (int i : none) {
            Check.dueInput(x, i, 0, 0);
        }
        Check.dueInput(x, 2, 0, 1);
        Check.dueInput(new SlopeRunner(), 0, 0, 0);
        Check.dueInput(Check.make("var v; row r [ 3 ];"), 0, 0, 0);
    }
}
