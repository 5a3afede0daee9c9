/** Terms III and promises 19 to 22: moves, ways, groups, group. */
final class MoveEdges {
    private static final int MOST = 1000000000;
    private static final int[] NONE_SUCH = {-1, -2, 8, 12, 100, Integer.MIN_VALUE, Integer.MAX_VALUE};
    private static final String EIGHT = "input a;input b;input c;input d;input e;input f;input g;input h;";

    private MoveEdges() {
    }

    static void all() {
        movesItself();
        movesTheOneThatItIs();
        movesAsBits();
        movesNoneSuch();
        waysOneToItself();
        waysTogether();
        waysAtMost();
        waysNoneSuch();
        groupsNoTwoThatMoveOne();
        groupsTheFewest();
        groupsLesserNumber();
        groupsNoneWithoutARun();
        groupByTheLatest();
        groupNoneSuch();
    }

    private static SlopeRunner ran(String text, int... whole) {
        SlopeRunner x = Check.make(text);
        for (int i = 0; i < whole.length; i++) {
            x.put(i, whole[i], 1);
        }
        x.run();
        return x;
    }

    private static void movesItself() {
        Sentences.of("Terms III", "MOVES: an INPUT moves a STEP if it moves a or b (of min, max only the one that it is), and itself.");
        SlopeRunner x = ran("input a;input b;var v;row r[2];give a;give b;give v;give 3;give a*0;give a-a;give 0*b+a;set r[a]=7;give r[0];"
                + "if a<b{give 1;}else{give v;}set v=a/5;give abs(v);");
        int[] due = {1, 2, 0, 0, 1, 1, 3, 0, 0, 1};
        for (int r = 0; r < due.length; r++) {
            Check.due("moves " + r, x.moves(r), due[r]);
        }
    }

    private static void movesTheOneThatItIs() {
        Sentences.of("Terms III", "(of min, max only the one that it is)");
        String text = "input a;input b;give min(a,b);give max(a,b);give min(b,a);give max(b,a);give min(a+b,9);give max(a+b,9);";
        int[][] tries = {{1, 2, 1, 2, 1, 2, 3, 0}, {2, 1, 2, 1, 2, 1, 3, 0}, {4, 4, 1, 1, 2, 2, 3, 0}, {5, 5, 1, 1, 2, 2, 0, 3}};
        for (int[] each : tries) {
            SlopeRunner x = ran(text, each[0], each[1]);
            for (int r = 0; r < 6; r++) {
                Check.due("moves " + r + " with " + each[0] + ", " + each[1], x.moves(r), each[r + 2]);
                Check.due("ways", x.ways(r, 0), each[r + 2] & 1);
                Check.due("ways", x.ways(r, 1), each[r + 2] >> 1);
            }
        }
    }

    private static void movesAsBits() {
        Sentences.of("Promise 19", "INPUTS that move a RESULT, as bits");
        SlopeRunner x = ran(EIGHT + "give a;give h;give a+h;give a+b+c+d+e+f+g+h;give 1;give d*e;");
        int[] due = {1, 128, 129, 255, 0, 24};
        for (int r = 0; r < due.length; r++) {
            Check.due("moves " + r, x.moves(r), due[r]);
        }
    }

    private static void movesNoneSuch() {
        Sentences.of("Promise 19", "NONE when there is none such.");
        SlopeRunner x = Check.make("input a;give a;give a/0;");
        Check.due("moves without a run", x.moves(0), SlopeRunner.NONE);
        x.run();
        Check.due("moves", x.moves(0), 1);
        Check.due("moves of what was not given", x.moves(1), SlopeRunner.NONE);
        for (int n : NONE_SUCH) {
            Check.due("moves " + n, x.moves(n), SlopeRunner.NONE);
        }
        SlopeRunner y = ran("input a;" + Check.times(12, "give a;"));
        Check.due("moves of the twelfth", y.moves(11), 1);
        Check.due("moves of a thirteenth", y.moves(12), SlopeRunner.NONE);
    }

    private static void waysOneToItself() {
        Sentences.of("Terms III", "WAYS from an INPUT to what is on THE TAPE: 1 to itself");
        SlopeRunner x = ran("input a;input b;var v;give a;give b;give v;give 1;set v=b;give v;");
        int[][] due = {{1, 0}, {0, 1}, {0, 0}, {0, 0}, {0, 1}};
        for (int r = 0; r < due.length; r++) {
            Check.due("ways " + r, x.ways(r, 0), due[r][0]);
            Check.due("ways " + r, x.ways(r, 1), due[r][1]);
        }
    }

    private static void waysTogether() {
        Sentences.of("Terms III", "to a STEP those to a and those to b together (of min, max the one that it is");
        SlopeRunner x = ran("input a;input b;give a+a;give a-a;give a*a;give a/a;give abs(a-a);give abs(a);give a*a*a+b;give min(a+a,a);give max(a*a,a+a+a);",
                1, 5);
        int[] due = {2, 2, 2, 2, 2, 1, 3, 1, 3};
        for (int r = 0; r < due.length; r++) {
            Check.due("ways " + r, x.ways(r, 0), due[r]);
        }
    }

    private static void waysAtMost() {
        Sentences.of("Terms III", "10 to the 9 at most");
        SlopeRunner x = ran("input a;input b;var k;var v;var w;set v=a;while k<9{set w=w+v+v+v+v+v+v+v+v+v;set v=v+v+v+v+v+v+v+v+v+v;set k=k+1;}"
                + "give w;give w+a;give w+a+a;give v;give v+a;give v-v;give w-w*v;give a-v;give b*v;");
        int[] due = {MOST - 1, MOST, MOST, MOST, MOST, MOST, MOST, MOST, MOST};
        for (int r = 0; r < due.length; r++) {
            Check.due("ways " + r, x.ways(r, 0), due[r]);
        }
        Check.due("ways from b", x.ways(8, 1), 1);
        Check.due("ways from b", x.ways(7, 1), 0);
    }

    private static void waysNoneSuch() {
        Sentences.of("Promise 20", "NONE when there are none such.");
        SlopeRunner x = Check.make("input a;input b;give a;give b/0;");
        Check.due("ways without a run", x.ways(0, 0), SlopeRunner.NONE);
        x.run();
        Check.due("ways", x.ways(0, 1), 0);
        Check.due("ways of what was not given", x.ways(1, 1), SlopeRunner.NONE);
        Check.due("ways from a third", x.ways(0, 2), SlopeRunner.NONE);
        for (int n : NONE_SUCH) {
            Check.due("ways to " + n, x.ways(n, 0), SlopeRunner.NONE);
            Check.due("ways from " + n, x.ways(0, n), SlopeRunner.NONE);
        }
        Check.due("ways without inputs", ran("give 1;").ways(0, 0), SlopeRunner.NONE);
    }

    private static void dueGroups(String text, int count, int... each) {
        SlopeRunner x = ran(text);
        Check.due("groups of \"" + text + "\"", x.groups(), count);
        for (int i = 0; i < each.length; i++) {
            Check.due("group " + i + " of \"" + text + "\"", x.group(i), each[i]);
        }
        Check.due("group " + each.length, x.group(each.length), SlopeRunner.NONE);
    }

    private static void groupsNoTwoThatMoveOne() {
        Sentences.of("Terms III", "GROUPS of INPUTS: no two INPUTS in one that move one RESULT");
        dueGroups("", 0);
        dueGroups("give 1;", 0);
        dueGroups("input a;", 1, 0);
        dueGroups("input a;give a;", 1, 0);
        dueGroups("input a;input b;give a;give b;", 1, 0, 0);
        dueGroups("input a;input b;give a*b;", 2, 0, 1);
        dueGroups("input a;input b;give min(a,b);", 1, 0, 0);
        dueGroups(EIGHT, 1, 0, 0, 0, 0, 0, 0, 0, 0);
        dueGroups(EIGHT + "give a+b+c+d+e+f+g+h;", 8, 0, 1, 2, 3, 4, 5, 6, 7);
        dueGroups(EIGHT + "give a+b+c+d+e+f+g;", 7, 0, 1, 2, 3, 4, 5, 6, 0);
        dueGroups(EIGHT + "give b+c+d+e+f+g+h;", 7, 0, 0, 1, 2, 3, 4, 5, 6);
        dueGroups(EIGHT + "give a+h;", 2, 0, 0, 0, 0, 0, 0, 0, 1);
        // Of all twelve results, and of those that were given ahead of where it is stuck.
        dueGroups("input a;input b;" + Check.times(11, "give a;") + "give a+b;", 2, 0, 1);
        dueGroups("input a;input b;give a;give 1/0;give a+b;", 1, 0, 0);
        dueGroups("input a;input b;give a+b;give 1/0;", 2, 0, 1);
    }

    private static void groupsTheFewest() {
        Sentences.of("Terms III", "the fewest");
        // Each with the least that is free takes three: a 0, b 0, c 1, d 2.
        dueGroups("input a;input b;input c;input d;give a+c;give c+d;give d+b;", 2, 0, 1, 1, 0);
        // A ring of five takes three, one of six two.
        dueGroups("input a;input b;input c;input d;input e;give a+b;give b+c;give c+d;give d+e;give e+a;", 3, 0, 1, 0, 1, 2);
        dueGroups(EIGHT + "give a+b;give b+c;give c+d;give d+e;give e+f;give f+a;", 2, 0, 1, 0, 1, 0, 1, 0, 0);
        // Pairs of a crown, one of each side in turn: the least that is free would take four.
        dueGroups(EIGHT + "give a+d;give a+f;give a+h;give c+b;give c+f;give c+h;give e+b;give e+d;give e+h;give g+b;give g+d;give g+f;",
                2, 0, 1, 0, 1, 0, 1, 0, 1);
    }

    private static void groupsLesserNumber() {
        Sentences.of("Terms III", "numbered so that, INPUT by INPUT, the first in which two ways differ has the lesser number");
        dueGroups("input a;input b;input c;give b+c;", 2, 0, 0, 1);
        dueGroups("input a;input b;input c;give a+b;", 2, 0, 1, 0);
        dueGroups("input a;input b;input c;give a+c;", 2, 0, 0, 1);
        dueGroups("input a;input b;input c;input d;give a+b+c;", 3, 0, 1, 2, 0);
        dueGroups("input a;input b;input c;input d;give b+c+d;", 3, 0, 0, 1, 2);
        dueGroups("input a;input b;input c;input d;give a+b;give c+d;", 2, 0, 1, 0, 1);
        dueGroups("input a;input b;input c;input d;give a+b;give b+c+d;", 3, 0, 1, 0, 2);
    }

    private static void groupsNoneWithoutARun() {
        Sentences.of("Promise 21", "GROUPS: how many; NONE without a RUN.");
        SlopeRunner x = new SlopeRunner();
        Check.due("groups of a new one", x.groups(), SlopeRunner.NONE);
        Check.take(x, "input a;input b;give a+b;");
        Check.due("groups without a run", x.groups(), SlopeRunner.NONE);
        x.run();
        Check.due("groups", x.groups(), 2);
        Check.due("groups again", x.groups(), 2);
        Check.take(x, "input a;input b;give a+b;");
        Check.due("groups behind program", x.groups(), SlopeRunner.NONE);
        Check.due("group behind that", x.group(0), SlopeRunner.NONE);
        Twin.dueUnmoved("groups without a run", y -> {
            Check.take(y, "input a;input b;give a+b;");
            y.put(0, 1, 1);
        }, SlopeRunner::groups);
        Twin.dueUnmoved("groups of a new one", y -> { }, SlopeRunner::groups);
    }

    private static void groupByTheLatest() {
        Sentences.of("Promise 22", "The GROUP of an INPUT by the latest groups() that was not NONE");
        SlopeRunner x = Check.make("input t;input a;input b;if t=0{give a*b;}else{give a;give b;}give 1/(t-2);");
        x.run();
        Check.due("ahead of groups", x.group(2), SlopeRunner.NONE);
        Check.due("groups", x.groups(), 2);
        Check.due("group", x.group(2), 1);
        x.put(0, 1, 1);
        Check.due("behind put", x.group(2), 1);
        x.run();
        Check.due("behind another run", x.group(2), 1);
        Check.due("groups", x.groups(), 1);
        Check.due("by that run", x.group(2), 0);
        // A program with a fault leaves it.
        Check.feed(x, "give");
        x.program();
        x.put(0, 0, 1);
        x.run();
        Check.due("groups", x.groups(), 2);
        Check.feed(x, "input a;give");
        x.program();
        Check.due("behind a fault", x.group(2), 1);
        // And so does a run that is stuck.
        x.put(0, 2, 1);
        Check.due("run", x.run(), 1);
        Check.due("behind a stuck run", x.group(2), 1);
        Check.due("groups of the stuck run", x.groups(), 1);
        Check.due("by the stuck run", x.group(2), 0);
    }

    private static void groupNoneSuch() {
        Sentences.of("Promise 22", "NONE when there is none such.");
        SlopeRunner x = ran("input a;input b;give a+b;");
        Check.due("group without groups", x.group(0), SlopeRunner.NONE);
        x.groups();
        Check.due("group 1", x.group(1), 1);
        Check.due("group 2", x.group(2), SlopeRunner.NONE);
        for (int n : NONE_SUCH) {
            Check.due("group " + n, x.group(n), SlopeRunner.NONE);
        }
        Check.take(x, "input a;input b;input c;");
        Check.due("group behind program", x.group(0), SlopeRunner.NONE);
        x.run();
        Check.due("group behind run", x.group(0), SlopeRunner.NONE);
    }
}
