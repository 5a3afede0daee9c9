import java.util.ArrayList;
import java.util.List;

/** Programs made by a fixed rule, run by the class and by the oracle, and all answers compared. */
public final class OracleTest {
    private static final int[] BIG = {1000000000, 999999999, 31623, 31622, 65536, 99999, 500000000, 999983};
    // 1001 * 999001 is 10 to the 9 and 1, 31250 * 32000 is 10 to the 9.
    private static final int[] STEEP = {0, 1, -1, 1001, 999001, 31250, -32000, 1000000000, -999999999, 9999};
    private static long seed = 20261118L;
    private static SlopeRunner used = new SlopeRunner();

    private OracleTest() {
    }

    public static void main(String[] args) {
        int[] states = new int[3];
        for (int i = 0; i < 3000; i++) {
            compareProgram(new Maker().program(), states, BIG);
        }
        for (int i = 0; i < 4000; i++) {
            compareProgram(steep(), new int[3], STEEP);
        }
        Check.due("there were whole, stuck and long runs", states[0] > 300 && states[1] > 300 && states[2] > 30, true);
        int[] faults = new int[6];
        for (int i = 0; i < 12000; i++) {
            compareFault(spoiled(new Maker().program()), faults);
        }
        Check.due("there were all faults", faults[1] > 99 && faults[2] > 9 && faults[3] > 99 && faults[4] > 9 && faults[5] > 9, true);
        Check.finish();
    }

    private static int pick(int n) {
        seed = seed * 6364136223846793005L + 1442695040888963407L;
        return (int) ((seed >>> 33) % n);
    }

    private static void compareProgram(String text, int[] states, int[] large) {
        if (text.length() > 700) {
            return;
        }
        Oracle.Parsed parsed;
        try {
            parsed = Oracle.parse(text);
        } catch (Oracle.Fault e) {
            Check.dueFault(text, e.kind, e.place);
            return;
        }
        if (pick(8) == 0) {
            used = new SlopeRunner();
        }
        SlopeRunner x = Check.take(used, text);
        Check.due("statements", x.has(3), parsed.statements);
        Check.due("numbers", x.has(4), parsed.numbers.size());
        List<Oracle.Frac> inputs = new ArrayList<>();
        for (int i = 0; i < parsed.inputs.size(); i++) {
            boolean steep = large == STEEP;
            int up = steep || pick(12) == 0 ? large[pick(large.length)] : pick(13) - 4;
            int down = pick(3) != 0 ? 1 : steep || pick(12) == 0 ? Math.max(1, large[pick(large.length)]) : 1 + pick(6);
            x.put(i, up, down);
            inputs.add(Oracle.Frac.of(up, down));
        }
        Oracle.Run run = new Oracle.Run(parsed, inputs);
        states[run.state]++;
        Check.due("run of \"" + text + "\"", x.run(), run.state);
        Check.due("steps", x.ran(0), run.steps);
        Check.due("tape", x.ran(1), run.tape.size());
        Check.due("results", x.ran(2), run.results.size());
        Check.due("edges", x.ran(3), run.edges);
        due("near", x.near(true), x.near(false), run.near);
        for (int r = 0; r < run.results.size(); r++) {
            due("result", x.result(r, true), x.result(r, false), run.value(run.results.get(r)));
            Check.due("moves", x.moves(r), run.moves(run.results.get(r)));
            for (int i = 0; i < inputs.size(); i++) {
                compareSlopes(x, run, r, i, inputs);
            }
        }
        int[] group = run.groups();
        int most = 0;
        Check.due("groups", x.groups() >= 0, true);
        for (int i = 0; i < group.length; i++) {
            Check.due("group of \"" + text + "\"", x.group(i), group[i]);
            most = Math.max(most, group[i] + 1);
        }
        Check.due("groups", x.groups(), most);
    }

    /** A few sums whose slopes are near the bounds, or beyond them, though the values are within. */
    private static String steep() {
        StringBuilder text = new StringBuilder("input a;input b;input c;var v;");
        String[] parts = {"a", "b", "c", "v", "1001", "9999", "2", "1", "(a-b)", "abs(a-c)", "min(b,c)", "max(v,a)"};
        String[] signs = {"+", "-", "*", "*", "/"};
        for (int i = 0; i < 4; i++) {
            text.append(pick(2) == 0 ? "set v=" : "give ").append(parts[pick(parts.length)]);
            for (int j = pick(4); j >= 0; j--) {
                text.append(signs[pick(signs.length)]).append(parts[pick(parts.length)]);
            }
            text.append(";");
        }
        return text.append("give v;").toString();
    }

    private static void compareSlopes(SlopeRunner x, Oracle.Run run, int r, int i, List<Oracle.Frac> inputs) {
        int at = run.results.get(r);
        Check.due("ways", x.ways(r, i), run.ways(at, i).longValue());
        Oracle.Frac forward = orNull(() -> run.forward(at, i, new java.util.HashMap<>()));
        due("forward", x.forward(r, i, true), x.forward(r, i, false), forward);
        Oracle.Frac backward = orNull(() -> run.backward(at, i));
        due("backward", x.backward(r, i, true), x.backward(r, i, false), backward);
        for (int j = 0; j < inputs.size(); j++) {
            int other = j;
            Oracle.Frac twice = orNull(() -> run.twice(at, i, other));
            due("twice", x.twice(r, i, j, true), x.twice(r, i, j, false), twice);
        }
        int h = 1 + pick(4);
        int down = 1 + pick(3);
        Oracle.Frac difference = orNull(() -> difference(run, r, i, Oracle.Frac.of(h, down), inputs));
        due("difference", x.difference(r, i, h, down, true), x.difference(r, i, h, down, false), difference);
    }

    private static Oracle.Frac difference(Oracle.Run run, int r, int i, Oracle.Frac h, List<Oracle.Frac> inputs) {
        List<Oracle.Frac> moved = new ArrayList<>(inputs);
        moved.set(i, inputs.get(i).plus(h));
        Oracle.Run other = new Oracle.Run(run.program, moved);
        if (other.state != 0 || r >= other.results.size()) {
            throw new Oracle.Stuck();
        }
        return other.value(other.results.get(r)).minus(run.value(run.results.get(r))).over(h);
    }

    private static Oracle.Frac orNull(java.util.function.Supplier<Oracle.Frac> made) {
        try {
            return made.get();
        } catch (Oracle.Stuck e) {
            return null;
        }
    }

    private static void due(String what, long above, long below, Oracle.Frac want) {
        Check.dueFraction(what, above, below, want == null ? 0 : want.up.longValue(), want == null ? 0 : want.down.longValue());
    }

    private static void compareFault(String text, int[] faults) {
        if (text.length() > 700) {
            return;
        }
        try {
            Check.dueGood(text, Oracle.parse(text).statements);
        } catch (Oracle.Fault e) {
            faults[e.kind]++;
            Check.dueFault(text, e.kind, e.place);
        }
    }

    private static String spoiled(String text) {
        StringBuilder all = new StringBuilder(text);
        String[] bits = {"(", ")", "[", "]", "{", "}", ";", ",", "+", "=", "<", "1", "23456", "a", "abcdefg", " ", "\n",
            "\t", "not ", "and ", "or ", "else ", "if ", "while ", "give ", "set ", "input a;", "row r[17];", "row r[0];", "var v;", "abs(", "min(", "((((((((",
            "if 1=1{if 1=1{if 1=1{if 1=1{", Check.times(20, "give 1;"), "input q;input w;input e;input t;input y;",
            Check.times(75, "give 1;")};
        int changes = 1 + pick(3);
        for (int i = 0; i < changes; i++) {
            int where = pick(6);
            int at = where == 0 ? 0 : where == 1 ? all.length() : pick(all.length() + 1);
            switch (pick(4)) {
                case 0:
                    all.delete(at, Math.min(all.length(), at + 1 + pick(3)));
                    break;
                case 1:
                    all.setLength(pick(4) == 0 ? at : all.length());
                    break;
                default:
                    all.insert(at, bits[pick(bits.length)]);
                    break;
            }
        }
        return all.toString();
    }

    /** Makes a program that is mostly good: names that are there, few braces, loops with a count. */
    private static final class Maker {
        private final StringBuilder text = new StringBuilder();
        private final List<String> single = new ArrayList<>();
        private final List<String> rows = new ArrayList<>();
        private final List<String> vars = new ArrayList<>();

        String program() {
            int inputs = pick(5);
            for (int i = 0; i < inputs; i++) {
                single.add("" + (char) ('a' + i));
                text.append("input ").append((char) ('a' + i)).append(pick(2) == 0 ? ";" : " ;\n");
            }
            for (int i = pick(3); i >= 0; i--) {
                vars.add("v" + (char) ('a' + i));
                single.add("v" + (char) ('a' + i));
                text.append("var v").append((char) ('a' + i)).append("; ");
            }
            for (int i = pick(3); i > 0; i--) {
                rows.add("r" + (char) ('a' + i));
                text.append("row r").append((char) ('a' + i)).append(" [ ").append(1 + pick(4)).append(" ];");
            }
            int statements = 2 + pick(6);
            for (int i = 0; i < statements && text.length() < 450; i++) {
                statement(0);
            }
            text.append("give ");
            sum(2);
            text.append(";");
            return text.toString();
        }

        private void statement(int depth) {
            int kind = pick(depth > 2 || text.length() > 450 ? 6 : 9);
            if (kind < 4) {
                text.append("set ");
                place(1);
                text.append(" = ");
                sum(2);
                text.append("; ");
            } else if (kind < 6) {
                text.append("give ");
                sum(2);
                text.append("; ");
            } else if (kind < 8) {
                text.append("if ");
                test(2);
                block(depth);
                if (pick(2) == 0) {
                    text.append(" else");
                    block(depth);
                }
            } else {
                String v = vars.get(pick(vars.size()));
                text.append("while ").append(v).append(" < ").append(pick(20) == 0 ? 999 : pick(9)).append(" { set ");
                text.append(v).append(" = ").append(v).append(" + 1; ");
                statement(depth + 1);
                text.append("}");
            }
        }

        private void block(int depth) {
            text.append(" { ");
            for (int i = pick(3); i > 0; i--) {
                statement(depth + 1);
            }
            text.append("}");
        }

        private void test(int depth) {
            int kind = depth == 0 ? 0 : pick(7);
            if (kind < 3) {
                sum(1);
                text.append(new String[] {" < ", ">", " ="}[pick(3)]);
                sum(1);
            } else if (kind < 5) {
                test(depth - 1);
                text.append(pick(2) == 0 ? " and " : " or ");
                test(depth - 1);
            } else if (kind == 5) {
                text.append("not ");
                test(depth - 1);
            } else {
                text.append("[");
                test(depth - 1);
                text.append("]");
            }
        }

        private void sum(int depth) {
            int kind = depth == 0 ? pick(3) : pick(9);
            if (kind == 0) {
                text.append(pick(30) == 0 ? 1000 + pick(9000) : pick(6));
            } else if (kind < 3) {
                place(depth);
            } else if (kind < 6) {
                sum(depth - 1);
                text.append(new String[] {" + ", "-", " * ", "/", "*", "+"}[pick(6)]);
                sum(depth - 1);
            } else if (kind == 6) {
                text.append("(");
                sum(depth - 1);
                text.append(")");
            } else if (kind == 7) {
                text.append("abs(");
                sum(depth - 1);
                text.append(")");
            } else {
                text.append(pick(2) == 0 ? "min(" : "max (");
                sum(depth - 1);
                text.append(", ");
                sum(depth - 1);
                text.append(")");
            }
        }

        private void place(int depth) {
            if (rows.isEmpty() || pick(3) != 0) {
                text.append(single.get(pick(single.size())));
                return;
            }
            text.append(rows.get(pick(rows.size()))).append(" [");
            if (depth == 0 || pick(3) != 0) {
                text.append(pick(5) == 0 ? 1 + pick(2) : 0);
            } else {
                sum(depth - 1);
            }
            text.append("]");
        }
    }
}
