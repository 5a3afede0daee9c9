/** Promises 19 to 22: moves, ways, groups, group. */
public final class MovesTest {
    private static final String EIGHT =
            "input a;input b;input c;input d;input e;input f;input g;input h;";

    private MovesTest() {
    }

    public static void main(String[] args) {
        moving();
        ways();
        manyWays();
        grouping();
        fewest();
        groupsStay();
        Check.finish();
    }

    private static SlopeRunner ran(String text) {
        SlopeRunner x = Check.make(text);
        x.run();
        return x;
    }

    private static void moving() {
        SlopeRunner x = Check.make("input a; input b; input c; give a; give 3; give a * 0; give min(a, b) + c; give max(b, a); give abs(c - b) - a / 2;");
        Check.due("moves without a run", x.moves(0), SlopeRunner.NONE);
        x.put(0, 1, 1);
        x.put(1, 2, 1);
        x.run();
        Check.due("itself", x.moves(0), 1);
        Check.due("a number", x.moves(1), 0);
        Check.due("though its slope is 0", x.moves(2), 1);
        Check.due("only the one that it is", x.moves(3), 5);
        Check.due("only the one that it is", x.moves(4), 2);
        Check.due("all", x.moves(5), 7);
        Check.due("no such", x.moves(6), SlopeRunner.NONE);
        Check.due("no such", x.moves(-1), SlopeRunner.NONE);
        Check.due("no such", x.moves(Integer.MIN_VALUE), SlopeRunner.NONE);
        Check.due("eight", ran(EIGHT + "give a+b+c+d+e+f+g+h; give h;").moves(0), 255);
        // A place's number moves nothing by itself.
        SlopeRunner y = ran("input i; row r [ 2 ]; set r [ i ] = 5; give r [ i ]; if i = 0 { give 1; }");
        Check.due("by its number alone", y.moves(0), 0);
        Check.due("by a test alone", y.moves(1), 0);
    }

    private static void ways() {
        SlopeRunner x = Check.make("input a; input b; give a; give a + a; give a * a * b; give (a + b) * (a - b); give min(a, a + a); give abs(a - a); give 4;");
        Check.due("ways without a run", x.ways(0, 0), SlopeRunner.NONE);
        x.put(0, 1, 1);
        x.run();
        Check.due("to itself", x.ways(0, 0), 1);
        Check.due("from another", x.ways(0, 1), 0);
        Check.due("twice", x.ways(1, 0), 2);
        Check.due("product", x.ways(2, 0), 2);
        Check.due("product", x.ways(2, 1), 1);
        Check.due("two by two", x.ways(3, 0), 2);
        Check.due("two by two", x.ways(3, 1), 2);
        Check.due("the one that it is", x.ways(4, 0), 1);
        Check.due("abs", x.ways(5, 0), 2);
        Check.due("a number", x.ways(6, 0), 0);
        Check.due("no such result", x.ways(7, 0), SlopeRunner.NONE);
        Check.due("no such input", x.ways(0, 2), SlopeRunner.NONE);
        Check.due("no such input", x.ways(0, -1), SlopeRunner.NONE);
        Check.due("no such result", x.ways(-1, 0), SlopeRunner.NONE);
    }

    private static void manyWays() {
        SlopeRunner x = Check.make("input n; input a; var k; set k = 0; var v; set v = a; while k < n { set v = v + v - v; set k = k + 1; } give v; give v + v;");
        x.put(0, 18, 1);
        x.run();
        Check.due("3 to the 18", x.ways(0, 1), 387420489);
        Check.due("twice that", x.ways(1, 1), 774840978);
        x.put(0, 19, 1);
        x.run();
        Check.due("3 to the 19, cut off", x.ways(0, 1), 1000000000);
        Check.due("twice that", x.ways(1, 1), 1000000000);
        x.put(0, 240, 1);
        x.run();
        Check.due("3 to the 240, cut off", x.ways(1, 1), 1000000000);
        Check.due("from n", x.ways(1, 0), 0);
    }

    private static void dueGroups(String text, int count, int... each) {
        SlopeRunner x = Check.make(text);
        Check.due("groups without a run", x.groups(), SlopeRunner.NONE);
        Check.due("group without groups", x.group(0), SlopeRunner.NONE);
        x.run();
        Check.due("group without groups", x.group(0), SlopeRunner.NONE);
        Check.due("groups of \"" + text + "\"", x.groups(), count);
        for (int i = 0; i < each.length; i++) {
            Check.due("group " + i + " of \"" + text + "\"", x.group(i), each[i]);
        }
        Check.due("group beyond", x.group(each.length), SlopeRunner.NONE);
        Check.due("group ahead", x.group(-1), SlopeRunner.NONE);
    }

    private static void grouping() {
        dueGroups("give 1;", 0);
        dueGroups("input a; give 1;", 1, 0);
        dueGroups("input a; input b; input c;", 1, 0, 0, 0);
        dueGroups("input a; input b; give a; give b;", 1, 0, 0);
        dueGroups("input a; input b; input c; give a + b; give b + c;", 2, 0, 1, 0);
        dueGroups("input a; input b; input c; give b + c;", 2, 0, 0, 1);
        dueGroups("input a; input b; input c; give a * b * c;", 3, 0, 1, 2);
        dueGroups(EIGHT + "give a+b+c+d+e+f+g+h;", 8, 0, 1, 2, 3, 4, 5, 6, 7);
        // Given ahead of where the run is stuck.
        dueGroups("input a; input b; give a + b; give 1 / 0; give a;", 2, 0, 1);
    }

    /** Taking the least free number input by input would need more groups here. */
    private static void fewest() {
        dueGroups("input a; input b; input c; input d; give a + c; give c + d; give d + b;", 2, 0, 1, 1, 0);
    }

    private static void groupsStay() {
        SlopeRunner x = Check.make("input t; input a; input b; if t = 0 { give a + b; } else { give a; give b; }");
        x.run();
        Check.due("groups", x.groups(), 2);
        x.put(0, 1, 1);
        x.run();
        Check.due("by the latest groups()", x.group(2), 1);
        Check.due("groups", x.groups(), 1);
        Check.due("by the latest groups()", x.group(2), 0);
        x.put(0, 0, 1);
        x.run();
        Check.due("groups", x.groups(), 2);
        Check.take(x, "input a; input b; give a; give b;");
        x.run();
        Check.due("groups of another program", x.groups(), 1);
        Check.take(x, "input a; input b; give a + b;");
        Check.due("none behind program", x.group(0), SlopeRunner.NONE);
        Check.due("none behind program", x.groups(), SlopeRunner.NONE);
        Check.due("still none", x.group(0), SlopeRunner.NONE);
    }
}
