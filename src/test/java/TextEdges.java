/** Promises 1 to 6: a new object, feed, end, program, fault, has. */
final class TextEdges {
    private static final int[] FAR = {Integer.MIN_VALUE, -1000, -2, -1, 1000, Integer.MAX_VALUE};
    private static final int BLANKS = 0x20202020;
    private static final int RUBBISH = 0x3f3f3f3f;
    private static final String MOVING = "input a; input b; row r [ 2 ]; give a * b; give max(a, 3); if a < b { give b - a; }";

    private TextEdges() {
    }

    static void all() {
        fiveHundredAndTwelveCalls();
        constants();
        newObjectEmptyProgram();
        newObjectNoRun();
        feedTwentyBytesHighestFirst();
        feedHowMany();
        feedMoreThan700();
        endFirstBytesAlone();
        endNotSoMany();
        endBelow0();
        programTapeGoes();
        programNothingOfEarlierOnes();
        programHowManyStatements();
        programFaultAllStays();
        programWithoutFault();
        faultWithoutAndAheadOfAny();
        faultOfTheLatest();
        faultPlaceNoneWithout();
        faultAnotherWhat();
        hasCounts();
        hasNumbersOfSums();
        hasNoneForOthers();
    }

    private static void fiveHundredAndTwelveCalls() {
        Sentences.of("What it is", "An object is used for at most 512 calls after it has been made");
        SlopeRunner x = new SlopeRunner();
        // Two calls feed it, so that the 512th is result().
        x.feed(0x696e7075, 0x7420613b, 0x67697665, 0x20612b31, 0x3b202020);
        x.program();
        for (int call = 3; call <= 510; call++) {
            Check.due("put at call " + call, x.put(0, call, 1), true);
        }
        Check.due("run at call 511", x.run(), 0);
        Check.due("result at call 512", x.result(0, true), 511);
    }

    private static void constants() {
        Sentences.of("The constants", "`NONE = -1`: There is none; it is refused.");
        Check.due("NONE", SlopeRunner.NONE, -1);
        Sentences.of("The constants", "`NO = -2000000000L`: There is no such fraction.");
        Check.due("NO", SlopeRunner.NO, -2000000000L);
    }

    private static void newObjectEmptyProgram() {
        Sentences.of("Promise 1", "An empty PROGRAM");
        SlopeRunner x = new SlopeRunner();
        for (int what = 0; what <= 4; what++) {
            Check.due("has " + what, x.has(what), 0);
        }
        Check.due("put", x.put(0, 1, 1), false);
        Check.due("undo", x.undo(), false);
        Check.due("redo", x.redo(), false);
        Check.dueInput(x, 0, 0, 0);
        Check.due("a byte on the tape", x.end(1), false);
        Check.due("run", x.run(), 0);
        Check.due("steps", x.ran(0), 0);
        Check.due("tape", x.ran(1), 1);
        Check.due("results", x.ran(2), 0);
        Check.due("edges", x.ran(3), 0);
        Check.dueNear(x, 0, 0);
        Check.due("groups", x.groups(), 0);
        Check.due("group", x.group(0), SlopeRunner.NONE);
    }

    private static void newObjectNoRun() {
        Sentences.of("Promise 1", "no RUN");
        dueNoRun(new SlopeRunner());
    }

    private static void dueNoRun(SlopeRunner x) {
        for (int what = 0; what <= 3; what++) {
            Check.due("ran " + what, x.ran(what), SlopeRunner.NONE);
        }
        Check.dueResult(x, 0, 0, 0);
        Check.dueNear(x, 0, 0);
        Check.dueSlope(x, 0, 0, 0, 0);
        Check.dueTwice(x, 0, 0, 0, 0, 0);
        Check.dueDifference(x, 0, 0, 1, 1, 0, 0);
        Check.due("moves", x.moves(0), SlopeRunner.NONE);
        Check.due("ways", x.ways(0, 0), SlopeRunner.NONE);
        Check.due("groups", x.groups(), SlopeRunner.NONE);
        Check.due("group", x.group(0), SlopeRunner.NONE);
    }

    private static void feedTwentyBytesHighestFirst() {
        Sentences.of("Promise 2", "Twenty bytes come behind those on the tape, of each number the highest first");
        SlopeRunner x = new SlopeRunner();
        // "give 1;give 23; give" and " 4;"
        x.feed(0x67697665, 0x20313b67, 0x69766520, 0x32333b20, 0x67697665);
        x.feed(0x20343b20, BLANKS, BLANKS, BLANKS, BLANKS);
        Check.due("program", x.program(), 3);
        x.run();
        Check.dueResult(x, 0, 1, 1);
        Check.dueResult(x, 1, 23, 1);
        Check.dueResult(x, 2, 4, 1);
        // A number below 0 has its highest bit in its highest byte.
        x.feed(0xff202020, BLANKS, BLANKS, BLANKS, BLANKS);
        Check.due("program", x.program(), SlopeRunner.NONE);
        Check.due("place of the byte 255", x.fault(1), 0);
        x.feed(0x202020ff, BLANKS, BLANKS, BLANKS, BLANKS);
        x.program();
        Check.due("place of the byte 255", x.fault(1), 3);
        x.feed(BLANKS, BLANKS, BLANKS, BLANKS, 0x202020ff);
        x.program();
        Check.due("place of the byte 255", x.fault(1), 19);
    }

    private static void feedHowMany() {
        Sentences.of("Promise 2", "how many there are");
        SlopeRunner x = new SlopeRunner();
        for (int n = 20; n <= 700; n += 20) {
            Check.due("feed", x.feed(BLANKS, BLANKS, BLANKS, BLANKS, BLANKS), n);
        }
        x.end(3);
        Check.due("feed behind three", x.feed(BLANKS, BLANKS, BLANKS, BLANKS, BLANKS), 23);
    }

    private static void feedMoreThan700() {
        Sentences.of("Promise 2", "NONE, doing nothing, if there would be more than 700");
        for (int left = 680; left <= 700; left++) {
            int length = left;
            SlopeRunner x = filled(length);
            Check.due("feed behind " + left, x.feed(RUBBISH, RUBBISH, RUBBISH, RUBBISH, RUBBISH),
                    left == 680 ? 700 : SlopeRunner.NONE);
            Check.due("a byte more than " + left, x.end(left + 1), left == 680);
            if (left > 680) {
                Twin.dueUnmoved("feed behind " + left, y -> fill(y, length),
                        y -> y.feed(RUBBISH, RUBBISH, RUBBISH, RUBBISH, RUBBISH));
            }
        }
    }

    private static SlopeRunner filled(int length) {
        SlopeRunner x = new SlopeRunner();
        fill(x, length);
        return x;
    }

    /** So many bytes that are a program with three numbers. */
    private static void fill(SlopeRunner x, int length) {
        String text = "input a; input b; give a + 1; give 2 * b;";
        Check.feed(x, text + Check.times(700 - text.length() - 8, " ") + " give 3;");
        x.end(length);
    }

    private static void endFirstBytesAlone() {
        Sentences.of("Promise 3", "The tape has its first n bytes alone: true");
        String text = "give 1;give 2;give 3;";
        for (int n = 0; n <= 3; n++) {
            SlopeRunner x = new SlopeRunner();
            Check.feed(x, text);
            Check.due("end", x.end(7 * n), true);
            Check.due("one more is gone", x.end(7 * n + 1), false);
            Check.due("as many as there are", x.end(7 * n), true);
            Check.due("program", x.program(), n);
        }
        SlopeRunner x = new SlopeRunner();
        Check.due("end(0) of an empty tape", x.end(0), true);
        Check.feed(x, "give 1;give 2");
        x.end(7);
        x.feed(0x67697665, 0x20393b20, BLANKS, BLANKS, BLANKS);
        Check.due("what is fed comes behind the first seven", x.program(), 2);
        x.run();
        Check.dueResult(x, 1, 9, 1);
    }

    private static void endNotSoMany() {
        Sentences.of("Promise 3", "false, doing nothing, if it has not so many");
        SlopeRunner x = new SlopeRunner();
        Check.due("end(1) of an empty tape", x.end(1), false);
        Check.feed(x, "give 1;");
        Check.due("end(8) of seven", x.end(8), false);
        Check.due("end(20) of seven", x.end(20), false);
        Check.due("end(most) of seven", x.end(Integer.MAX_VALUE), false);
        Check.due("end(7) of seven", x.end(7), true);
        Check.due("end(701) of 700", filled(700).end(701), false);
        Check.due("end(700) of 700", filled(700).end(700), true);
        Twin.dueUnmoved("end(8) of seven", y -> Check.feed(y, "give 1;"), y -> y.end(8));
        Twin.dueUnmoved("end(701) of 700", y -> fill(y, 700), y -> y.end(701));
    }

    private static void endBelow0() {
        Sentences.of("Promise 3", "or n is below 0");
        int[] below = {-1, -7, -20, Integer.MIN_VALUE};
        for (int n : below) {
            SlopeRunner x = filled(7);
            Check.due("end " + n, x.end(n), false);
            Check.due("all seven are there", x.end(7), true);
            Twin.dueUnmoved("end " + n, y -> Check.feed(y, "give 1;"), y -> y.end(n));
        }
    }

    private static void programTapeGoes() {
        Sentences.of("Promise 4", "The tape (it goes) is the PROGRAM");
        String[] texts = {"give 1;", "give", "", "give 1; ?"};
        for (String text : texts) {
            SlopeRunner x = new SlopeRunner();
            Check.feed(x, text);
            x.program();
            Check.due("a byte is left of \"" + text + "\"", x.end(1), false);
            Check.due("feed behind \"" + text + "\"", x.feed(BLANKS, BLANKS, BLANKS, BLANKS, BLANKS), 20);
            Check.due("program of blanks", x.program(), 0);
            Check.due("statements", x.has(3), 0);
        }
        SlopeRunner y = Check.make("input a; give a;");
        Check.due("program of an empty tape", y.program(), 0);
        Check.due("inputs", y.has(0), 0);
    }

    /** Whatever was taken or refused ahead of it, a program is as in a new object. */
    private static void programNothingOfEarlierOnes() {
        Sentences.of("Promise 4", "The tape (it goes) is the PROGRAM");
        String[] earlier = {"input k;input l;input m;input n;input o;input p;input q;input r;row A[16];row B[16];row C[16];row D[16];"
            + "var a;var b;var c;var d;var e;var f;var g;var h;var i;var j;var s;var t;set A[1]=1;give A[1]+2*3;" + Check.times(5, "give 4;"),
            "give ((((((((", "if not not not not 1=1{if [[[1", "give abcdefg", "row r[12345", "var v;var v;", Check.times(80, "give 1;"),
            Check.times(81, "give 1;"), "input a;input b;give a*b;while a<b{}", ""};
        String[] later = {"", "give 1;", "input a;give a+1;give 2*a;if a<5{give a-2;}", "give a;", "give zz;", "?", "give 1;  ?", "give",
            "give ((((((((1))))))));", "row A[1];give A[1];", "row k[2];set k[1]=5;give k[1];give k[0];"};
        for (String one : earlier) {
            for (String other : later) {
                Twin.dueAlike("\"" + other + "\" behind \"" + one + "\"", x -> {
                    // Three of them, so that each place where a program is held has had one.
                    for (int i = 0; i < 3; i++) {
                        Check.feed(x, one);
                        x.program();
                        x.put(1, 3, 4);
                        x.run();
                        x.groups();
                    }
                    laterProgram(x, other);
                }, x -> laterProgram(x, other));
            }
        }
    }

    /** What stays when the later one has a fault is not looked at: an empty program stands ahead of it. */
    private static void laterProgram(SlopeRunner x, String text) {
        Check.take(x, "");
        Check.feed(x, text);
        x.program();
        x.put(0, 1, 2);
        x.run();
    }

    private static void programHowManyStatements() {
        Sentences.of("Promise 4", "how many STATEMENTS");
        Check.dueGood("", 0);
        Check.dueGood("give 1;", 1);
        Check.dueGood("if 1 = 1 { } else { }", 1);
        Check.dueGood("while 1 = 1 { give 1; if 1 = 2 { give 2; } else { give 3; give 4; } }", 6);
        Check.dueGood("input a; row r [ 1 ]; var v; set a = v;", 4);
        Check.dueGood(Check.times(80, "give 1;"), 80);
    }

    private static void moved(SlopeRunner x) {
        Check.take(x, MOVING);
        x.put(0, 2, 1);
        x.put(1, 7, 2);
        x.put(0, 9, 4);
        x.undo();
        x.run();
        x.groups();
        x.put(1, 5, 1);
        x.put(1, 6, 1);
        x.undo();
    }

    private static void programFaultAllStays() {
        Sentences.of("Promise 4", "NONE with a FAULT (all stays)");
        String[] faulty = {"give", "input a; input b; input c; var v; row q [ 17 ];", "give x;", "give (((((((((1",
            "input b; input a; give a; give 1 +", Check.times(81, "give 1;"), "?"};
        for (String text : faulty) {
            SlopeRunner x = new SlopeRunner();
            moved(x);
            Check.feed(x, text);
            Check.due("program of \"" + text + "\"", x.program(), SlopeRunner.NONE);
            Twin.dueAlikeButFault("program of \"" + text + "\"", TextEdges::moved, y -> {
                Check.feed(y, text);
                y.program();
            }, y -> { });
        }
        SlopeRunner fresh = new SlopeRunner();
        Check.feed(fresh, "give");
        fresh.program();
        dueNoRun(fresh);
        Check.due("the empty program stays", fresh.run(), 0);
    }

    private static void programWithoutFault() {
        Sentences.of("Promise 4", "Without one INPUTS are 0, there is nothing to undo() or redo(), no RUN, no GROUPS.");
        String[] texts = {MOVING, "input a; input b; give a;", "input a; give a; give 1;"};
        for (String text : texts) {
            SlopeRunner x = new SlopeRunner();
            moved(x);
            Check.take(x, text);
            Check.dueInput(x, 0, 0, 1);
            Check.dueInput(x, x.has(0) - 1, 0, 1);
            Check.due("redo", x.redo(), false);
            Check.due("undo", x.undo(), false);
            Check.dueInput(x, 0, 0, 1);
            dueNoRun(x);
            Check.due("group 1", x.group(1), SlopeRunner.NONE);
        }
    }

    private static void faultWithoutAndAheadOfAny() {
        Sentences.of("Promise 5", "its FAULT (0; 0 without, and ahead of any)");
        SlopeRunner x = new SlopeRunner();
        Check.due("ahead of any", x.fault(0), 0);
        Check.feed(x, "give");
        Check.due("fed, but not taken", x.fault(0), 0);
        x.program();
        Check.due("with", x.fault(0), 1);
        Check.take(x, "give 1;");
        Check.due("without", x.fault(0), 0);
    }

    private static void faultOfTheLatest() {
        Sentences.of("Promise 5", "Of the latest program()");
        SlopeRunner x = new SlopeRunner();
        String[] texts = {"  ?", "row r [ 17 ];", "give cow;", "give (((((((((1", Check.times(81, "give 1;")};
        int[] places = {2, 8, 5, 13, 560};
        for (int i = 0; i < texts.length; i++) {
            Check.feed(x, texts[i]);
            x.program();
            Check.due("fault", x.fault(0), i + 1);
            Check.due("place", x.fault(1), places[i]);
            Check.due("the same again", x.fault(0), i + 1);
            Check.feed(x, "give 1;");
            x.end(4);
            x.run();
            Check.due("other calls leave it", x.fault(0), i + 1);
            Check.due("other calls leave it", x.fault(1), places[i]);
            x.end(0);
        }
    }

    private static void faultPlaceNoneWithout() {
        Sentences.of("Promise 5", "its place (1; NONE without)");
        SlopeRunner x = new SlopeRunner();
        Check.due("ahead of any", x.fault(1), SlopeRunner.NONE);
        Check.feed(x, "?");
        x.program();
        Check.due("at the first byte", x.fault(1), 0);
        Check.feed(x, Check.times(699, " ") + "?");
        x.program();
        Check.due("at the last byte that can be", x.fault(1), 699);
        Check.feed(x, Check.times(696, " ") + "give");
        x.program();
        Check.due("at the greatest length", x.fault(1), 700);
        Check.take(x, "");
        Check.due("without", x.fault(1), SlopeRunner.NONE);
    }

    private static void faultAnotherWhat() {
        Sentences.of("Promise 5", "NONE for another what");
        SlopeRunner x = new SlopeRunner();
        Check.feed(x, "   ?");
        x.program();
        Check.due("fault(2)", x.fault(2), SlopeRunner.NONE);
        for (int what : FAR) {
            Check.due("fault " + what, x.fault(what), SlopeRunner.NONE);
        }
    }

    private static void hasCounts() {
        Sentences.of("Promise 6", "0 INPUTS, 1 ROWS, 2 VARS, 3 STATEMENTS, 4 N's of the text's SUMS.");
        SlopeRunner x = Check.make("input a;input b;input c;input d;input e;input f;input g;input h;row A[1];row B[1];row C[1];row D[16];"
                + "var k;var l;var m;var n;var o;var p;var q;var r;var s;var t;var u;var v;give 1;give 2;give 3;");
        int[] full = {8, 4, 12, 27, 3};
        for (int what = 0; what <= 4; what++) {
            Check.due("has " + what, x.has(what), full[what]);
        }
        Check.take(x, "");
        for (int what = 0; what <= 4; what++) {
            Check.due("has " + what + " of an empty one", x.has(what), 0);
        }
    }

    private static void hasNumbersOfSums() {
        Sentences.of("Promise 6", "4 N's of the text's SUMS");
        Check.due("a row's N is none", Check.make("row r [ 3 ];").has(4), 0);
        Check.due("of give", Check.make("give 1 + 1;").has(4), 2);
        Check.due("of a place", Check.make("row r [ 3 ]; set r [ 1 ] = r [ 2 ];").has(4), 2);
        Check.due("of a test", Check.make("if not [ 1 = 2 ] and 3 < 4 { }").has(4), 4);
        Check.due("of abs, min, max", Check.make("give abs(1) + min(2, 3) - max(4, (5));").has(4), 5);
        Check.due("the most", Check.make("give 1" + Check.times(346, "*1") + ";").has(4), 347);
    }

    private static void hasNoneForOthers() {
        Sentences.of("Promise 6", "NONE for others.");
        SlopeRunner x = Check.make("input a; give 1;");
        Check.due("has(5)", x.has(5), SlopeRunner.NONE);
        for (int what : FAR) {
            Check.due("has " + what, x.has(what), SlopeRunner.NONE);
        }
    }
}
