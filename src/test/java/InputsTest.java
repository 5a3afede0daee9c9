/** Promises 7 to 10: put, undo, redo, input. */
public final class InputsTest {
    private static final int MOST = 1000000000;

    private InputsTest() {
    }

    public static void main(String[] args) {
        putting();
        refusing();
        undoing();
        fortyBehind();
        fortyOfTwo();
        Check.finish();
    }

    private static void putting() {
        SlopeRunner x = Check.make("input a; input b;");
        Check.dueInput(x, 0, 0, 1);
        Check.due("put", x.put(0, 6, 4), true);
        Check.dueInput(x, 0, 3, 2);
        Check.due("put", x.put(1, -6, 9), true);
        Check.dueInput(x, 1, -2, 3);
        Check.due("put 0", x.put(0, 0, 7), true);
        Check.dueInput(x, 0, 0, 1);
        Check.due("put the most", x.put(0, MOST, 1), true);
        Check.dueInput(x, 0, MOST, 1);
        Check.due("put the least", x.put(0, -MOST, MOST), true);
        Check.dueInput(x, 0, -1, 1);
        Check.due("put the smallest", x.put(0, 1, MOST), true);
        Check.dueInput(x, 0, 1, MOST);
        Check.dueInput(x, 1, -2, 3);
    }

    private static void refusing() {
        SlopeRunner x = Check.make("input a; input b;");
        x.put(0, 1, 2);
        x.put(0, 1, 3);
        x.undo();
        Check.due("no such input", x.put(2, 1, 1), false);
        Check.due("input below 0", x.put(-1, 1, 1), false);
        Check.due("below 0", x.put(0, 1, 0), false);
        Check.due("below -1", x.put(0, 1, -1), false);
        Check.due("below too much", x.put(0, 1, MOST + 1), false);
        Check.due("above too much", x.put(0, MOST + 1, 1), false);
        Check.due("above too much, though not in lowest terms", x.put(0, 2 * MOST, 2), false);
        Check.due("above too little", x.put(0, -MOST - 1, 1), false);
        Check.due("above the least int", x.put(0, Integer.MIN_VALUE, Integer.MIN_VALUE), false);
        Check.dueInput(x, 0, 1, 2);
        Check.dueInput(x, 2, 0, 0);
        Check.dueInput(x, -1, 0, 0);
        Check.due("what is refused leaves redo", x.redo(), true);
        Check.dueInput(x, 0, 1, 3);
    }

    private static void undoing() {
        SlopeRunner x = Check.make("input a; input b;");
        Check.due("nothing to undo", x.undo(), false);
        Check.due("nothing to redo", x.redo(), false);
        x.put(0, 1, 1);
        x.put(1, 2, 1);
        x.put(0, 3, 1);
        Check.due("undo", x.undo(), true);
        Check.dueInput(x, 0, 1, 1);
        Check.due("undo", x.undo(), true);
        Check.dueInput(x, 1, 0, 1);
        Check.due("redo", x.redo(), true);
        Check.dueInput(x, 1, 2, 1);
        Check.dueInput(x, 0, 1, 1);
        Check.due("put", x.put(0, 1, 1), true);
        Check.due("nothing to redo behind put", x.redo(), false);
        Check.due("undo of a like put", x.undo(), true);
        Check.dueInput(x, 0, 1, 1);
        Check.dueInput(x, 1, 2, 1);
        Check.due("undo", x.undo(), true);
        Check.due("undo", x.undo(), true);
        Check.due("undo", x.undo(), false);
        Check.dueInput(x, 0, 0, 1);
        Check.dueInput(x, 1, 0, 1);
        Check.due("redo", x.redo(), true);
        Check.due("redo", x.redo(), true);
        Check.due("redo", x.redo(), true);
        Check.due("redo", x.redo(), false);
        Check.dueInput(x, 0, 1, 1);
        Check.dueInput(x, 1, 2, 1);
    }

    private static void fortyBehind() {
        SlopeRunner x = Check.make("input a;");
        for (int i = 1; i <= 43; i++) {
            x.put(0, i, 1);
        }
        for (int i = 42; i >= 3; i--) {
            Check.due("undo of the latest forty", x.undo(), true);
            Check.dueInput(x, 0, i, 1);
        }
        Check.due("undo of the 41st", x.undo(), false);
        Check.dueInput(x, 0, 3, 1);
        for (int i = 4; i <= 43; i++) {
            Check.due("redo of forty", x.redo(), true);
            Check.dueInput(x, 0, i, 1);
        }
        Check.due("redo of the 41st", x.redo(), false);
        // What has dropped out behind forty does not come back when later ones are undone.
        for (int i = 0; i < 10; i++) {
            x.undo();
        }
        x.put(0, 99, 1);
        int undone = 0;
        while (x.undo()) {
            undone++;
        }
        Check.due("undone", undone, 31);
        Check.dueInput(x, 0, 3, 1);
    }

    private static void fortyOfTwo() {
        SlopeRunner x = Check.make("input a; input b;");
        for (int i = 1; i <= 45; i++) {
            x.put(i % 3 == 0 ? 1 : 0, i, 1);
        }
        for (int i = 45; i > 5; i--) {
            Check.dueInput(x, 0, i % 3 == 0 ? i - 1 : i, 1);
            Check.dueInput(x, 1, i - i % 3, 1);
            Check.due("undo", x.undo(), true);
        }
        Check.due("undo", x.undo(), false);
        Check.dueInput(x, 0, 5, 1);
        Check.dueInput(x, 1, 3, 1);
    }
}
