import java.util.ArrayList;
import java.util.List;

/**
 * Two objects with the same calls behind them, one of which gets a call more that must change
 * nothing: whatever can be asked of them afterwards is answered alike.
 */
final class Twin {
    private static final int BLANKS = 0x20202020;
    private static final int MOST_PUTS = 60;

    interface Calls {
        void on(SlopeRunner x);
    }

    private Twin() {
    }

    static void dueUnmoved(String what, Calls before, Calls more) {
        dueAlike(what, before, more, x -> { }, true);
    }

    /** Two ways that must lead to the same. */
    static void dueAlike(String what, Calls one, Calls other) {
        dueAlike(what, x -> { }, one, other, true);
    }

    /** Calls that may leave another fault behind, and nothing else. */
    static void dueAlikeButFault(String what, Calls before, Calls one, Calls other) {
        dueAlike(what, before, one, other, false);
    }

    private static void dueAlike(String what, Calls before, Calls one, Calls other, boolean withFault) {
        SlopeRunner x = new SlopeRunner();
        SlopeRunner y = new SlopeRunner();
        before.on(x);
        before.on(y);
        one.on(x);
        other.on(y);
        List<Long> a = seen(x, withFault);
        List<Long> b = seen(y, withFault);
        int same = 0;
        while (same < a.size() && same < b.size() && a.get(same).equals(b.get(same))) {
            same++;
        }
        Check.due(what + ": answers like those without it", same, Math.max(a.size(), b.size()));
    }

    private static List<Long> seen(SlopeRunner x, boolean withFault) {
        List<Long> all = new ArrayList<>();
        if (withFault) {
            all.add((long) x.fault(0));
            all.add((long) x.fault(1));
        }
        standing(x, all);
        puts(x, all);
        all.add((long) x.groups());
        standing(x, all);
        all.add((long) x.run());
        standing(x, all);
        tape(x, all);
        return all;
    }

    private static void standing(SlopeRunner x, List<Long> all) {
        for (int what = 0; what <= 4; what++) {
            all.add((long) x.has(what));
            all.add((long) x.ran(what));
        }
        inputs(x, all);
        for (int i = 0; i < 8; i++) {
            all.add((long) x.group(i));
        }
        for (int half = 0; half < 2; half++) {
            boolean above = half == 0;
            all.add(x.near(above));
            for (int r = 0; r < 3; r++) {
                all.add(x.result(r, above));
                all.add((long) x.moves(r));
                for (int i = 0; i < 2; i++) {
                    all.add(x.forward(r, i, above));
                    all.add(x.backward(r, i, above));
                    all.add(x.twice(r, i, 1 - i, above));
                    all.add(x.difference(r, i, 1, 2, above));
                    all.add((long) x.ways(r, i));
                }
            }
        }
    }

    private static void inputs(SlopeRunner x, List<Long> all) {
        for (int i = 0; i < 8; i++) {
            all.add(x.input(i, true));
            all.add(x.input(i, false));
        }
    }

    /** All that can be redone, all that can be undone, and on again to the first of them. */
    private static void puts(SlopeRunner x, List<Long> all) {
        for (int i = 0; i < MOST_PUTS && x.redo(); i++) {
            inputs(x, all);
        }
        all.add(-1L);
        for (int i = 0; i < MOST_PUTS && x.undo(); i++) {
            inputs(x, all);
        }
        all.add(-2L);
        all.add(x.redo() ? 1L : 0L);
        inputs(x, all);
    }

    private static void tape(SlopeRunner x, List<Long> all) {
        all.add((long) x.feed(BLANKS, BLANKS, BLANKS, BLANKS, BLANKS));
        all.add((long) x.program());
        all.add((long) x.fault(0));
        all.add((long) x.fault(1));
        x.put(0, 7, 2);
        all.add((long) x.run());
        standing(x, all);
    }
}
