/** Terms II and promises 11 to 14: run, ran, result, near. */
final class RunEdges {
    private static final int MOST = 1000000000;
    private static final int WHOLE = 0;
    private static final int STUCK = 1;
    private static final int LONG = 2;
    /** 999 steps with n = 499 (an edge) or n = 997 / 2 (none, and 1/2 is near); k is 499 then, z is 0. */
    private static final String LOOP = "input n;var k;var z;row r[1];while k<n{set k=k+1;}";
    private static final int LOOP_STEPS = 999;
    private static final int LOOP_TAPE = 3 + 499;

    private RunEdges() {
    }

    static void all() {
        inputsAsPut();
        varsAndPlaces0();
        tapeHasFirst();
        stepsFromTheLeftOn();
        sumAheadOfThePlace();
        noneOfItsPlaces();
        signIsAStepNotOnTheTape();
        testIsWorkedWhole();
        thirteenthGive();
        thousandAndFirstStep();
        thousandAndFirstCountsNothing();
        stuckAtTheThousandth();
        noStepBehindTheThousandth();
        givenAheadStands();
        edgesOfEach();
        edgesHowManyTimes();
        nearLeast();
        nearWithoutItsSign();
        nearOfAbs();
        nearStuckLeftOut();
        nearNoneWithout();
        runAnswers();
        ranStuckAndLongNot();
        ranNoneWithoutARun();
        ranNoneForOthers();
        resultNoneSuch();
        resultOfTheLatest();
        nearLikewise();
    }

    private static SlopeRunner ran(String text, int how, int... fractions) {
        SlopeRunner x = Check.make(text);
        for (int i = 0; i + 1 < fractions.length; i += 2) {
            x.put(i / 2, fractions[i], fractions[i + 1]);
        }
        Check.due("run of \"" + text + "\"", x.run(), how);
        return x;
    }

    private static void dueRan(SlopeRunner x, int steps, int tape, int results, int edges) {
        Check.due("steps", x.ran(0), steps);
        Check.due("tape", x.ran(1), tape);
        Check.due("results", x.ran(2), results);
        Check.due("edges", x.ran(3), edges);
    }

    private static void inputsAsPut() {
        Sentences.of("Terms II", "INPUTS are as put (0 at first)");
        SlopeRunner x = Check.make("input a;give a;set a=a+5;give a;");
        x.run();
        Check.dueResult(x, 0, 0, 1);
        Check.dueResult(x, 1, 5, 1);
        x.put(0, -3, 2);
        x.run();
        Check.dueResult(x, 0, -3, 2);
        x.run();
        Check.dueResult(x, 0, -3, 2);
        x.undo();
        x.run();
        Check.dueResult(x, 0, 0, 1);
        x.redo();
        x.run();
        Check.dueResult(x, 0, -3, 2);
    }

    private static void varsAndPlaces0() {
        Sentences.of("Terms II", "VARS, PLACES of ROWS 0.");
        SlopeRunner x = Check.make("var v;row r[16];give v;give r[0];give r[15];set v=1;set r[0]=2;set r[15]=3;give v+r[0]+r[15];");
        for (int i = 0; i < 2; i++) {
            Check.due("run", x.run(), WHOLE);
            Check.dueResult(x, 0, 0, 1);
            Check.dueResult(x, 1, 0, 1);
            Check.dueResult(x, 2, 0, 1);
            Check.dueResult(x, 3, 6, 1);
        }
    }

    private static void tapeHasFirst() {
        Sentences.of("Terms II", "THE TAPE has first the INPUTS, then 0 (one for all), then each N of the text's SUMS");
        dueRan(ran("", WHOLE), 0, 1, 0, 0);
        dueRan(ran("input a;", WHOLE), 0, 2, 0, 0);
        dueRan(ran("var v;row r[16];", WHOLE), 0, 1, 0, 0);
        dueRan(ran("give 5;give 5;", WHOLE), 0, 3, 2, 0);
        // Those that the run does not come to, too.
        dueRan(ran("if 1=2{give 3+4;}", WHOLE), 1, 5, 0, 0);
        dueRan(ran("give 1/0;give 7;", STUCK), 0, 4, 0, 0);
        SlopeRunner full = ran("input a;input b;input c;input d;input e;input f;input g;input h;give 1" + Check.times(310, "+1") + ";", WHOLE);
        dueRan(full, 310, 8 + 1 + 311 + 310, 1, 0);
        fullTape();
    }

    /** As long a tape as there can be: eight inputs, the most numbers, and all steps but four on it. */
    private static void fullTape() {
        SlopeRunner x = ran("input a;input b;input c;input d;input e;input f;input g;input h;while a=a{give a;set a=a"
                + Check.times(304, "*1") + ";}", LONG, 5, 1);
        dueRan(x, 1000, 8 + 1 + 304 + 996, 4, 4);
        Check.dueResult(x, 3, 5, 1);
        Check.dueSlope(x, 3, 0, 1, 1);
        Check.due("ways", x.ways(3, 0), 1);
        SlopeRunner y = ran("input h;var k;set k=0" + Check.times(240, "+1") + ";while k>0{set k=k-1;set h=h+1;}give h*h;", WHOLE, 3, 1);
        dueRan(y, 240 + 241 + 2 * 240 + 1, 2 + 244 + 240 + 2 * 240 + 1, 1, 1);
        Check.dueResult(y, 0, 243 * 243, 1);
        Check.dueSlope(y, 0, 0, 486, 1);
        Check.dueTwice(y, 0, 0, 0, 2, 1);
    }

    private static void stepsFromTheLeftOn() {
        Sentences.of("Terms II", "(from the left on, what stands within ahead of it)");
        Check.due("left side first", ran("give (1+1)*(1/0);", STUCK).ran(0), 1);
        Check.due("left side first", ran("give (1/0)*(1+1);", STUCK).ran(0), 0);
        Check.due("product ahead of sum", ran("give 1+2*3+1/0;", STUCK).ran(0), 2);
        Check.due("within min", ran("give min(1+1,abs(2-3)+1/0);", STUCK).ran(0), 3);
        Check.due("a place's sum ahead of what is behind it", ran("row r[2];give r[1-1]+r[1-1]/0;", STUCK).ran(0), 2);
        Check.due("sides of a sign", ran("if 1+1<2/0{}", STUCK).ran(0), 1);
    }

    private static void sumAheadOfThePlace() {
        Sentences.of("Terms II", "(the SUM worked ahead of the PLACE's own SUM)");
        Check.due("the place is stuck", ran("row r[2];set r[1/0]=1+1;", STUCK).ran(0), 1);
        Check.due("the place is none", ran("row r[2];set r[2]=1+1+1;", STUCK).ran(0), 2);
        Check.due("the sum is stuck", ran("row r[2];set r[1-1]=1/0;", STUCK).ran(0), 0);
        SlopeRunner x = ran("row r[2];set r[r[0]]=r[0]+1;give r[0];set r[r[0]]=r[0]+4;give r[0];give r[1];", WHOLE);
        Check.dueResult(x, 0, 1, 1);
        Check.dueResult(x, 1, 1, 1);
        Check.dueResult(x, 2, 5, 1);
    }

    private static void noneOfItsPlaces() {
        Sentences.of("Terms II", "(STUCK, if it is none of its PLACES, from 0 on)");
        int[] sizes = {1, 2, 15, 16};
        for (int size : sizes) {
            SlopeRunner x = Check.make("input i;row q[16];row r[" + size + "];row s[16];give 1;give r[i];set r[i]=1;give 2;");
            int[][] wrong = {{-1, 1}, {size, 1}, {1, 2}, {-1, 2}, {2 * size - 1, 2}, {MOST, 1}, {-MOST, 1}, {1, MOST}, {16, 1}};
            for (int[] each : wrong) {
                x.put(0, each[0], each[1]);
                Check.due("run with " + each[0] + "/" + each[1] + " of " + size, x.run(), STUCK);
                dueRan(x, 0, 5, 1, 0);
            }
            for (int i = 0; i < size; i++) {
                x.put(0, i, 1);
                Check.due("run with " + i + " of " + size, x.run(), WHOLE);
                dueRan(x, 0, 5, 3, 0);
            }
        }
        ran("input i;row r[3];set r[i]=1;", STUCK, 3, 1);
        ran("input i;row r[3];set r[i]=1;", WHOLE, 2, 1);
    }

    private static void signIsAStepNotOnTheTape() {
        Sentences.of("Terms II", "A SIGN of a TEST counts as a STEP, too, but is not on THE TAPE");
        dueRan(ran("if 1<2{}", WHOLE), 1, 3, 0, 0);
        dueRan(ran("if 1>2{}", WHOLE), 1, 3, 0, 0);
        dueRan(ran("if 1=2{}", WHOLE), 1, 3, 0, 0);
        dueRan(ran("if not [1=2 or 3=4 and not 5=6]{}", WHOLE), 3, 7, 0, 0);
        dueRan(ran("var k;while k<3{set k=k+1;}", WHOLE), 7, 6, 0, 1);
    }

    private static void testIsWorkedWhole() {
        Sentences.of("Terms II", "a TEST is worked whole, from the left on.");
        dueRan(ran("if 1=1 or 2=2{give 1;}", WHOLE), 2, 6, 1, 2);
        dueRan(ran("if 1=2 and 2=2{give 1;}", WHOLE), 2, 6, 0, 1);
        dueRan(ran("if 1=1 or 1/0=1{give 1;}", STUCK), 1, 7, 0, 1);
        dueRan(ran("if 1=2 and 1/0=1{give 1;}", STUCK), 1, 7, 0, 0);
        dueRan(ran("if 1/0=1 or 1=1{give 1;}", STUCK), 0, 7, 0, 0);
    }

    private static void thirteenthGive() {
        Sentences.of("Terms II", "give makes its SUM a RESULT (from 0 on; a 13th is STUCK).");
        for (int n = 0; n <= 14; n++) {
            SlopeRunner x = ran("var k;while k<" + n + "{set k=k+1;give k;}", n <= 12 ? WHOLE : STUCK);
            Check.due("results", x.ran(2), Math.min(n, 12));
            for (int r = 0; r < 14; r++) {
                Check.dueResult(x, r, r + 1, r < Math.min(n, 12) ? 1 : 0);
            }
        }
        // The sum of the 13th is worked.
        dueRan(ran(Check.times(12, "give 1;") + "give 1+1;", STUCK), 1, 16, 12, 0);
        dueRan(ran(Check.times(12, "give 1;") + "give 1/0;", STUCK), 0, 15, 12, 0);
        dueRan(ran(Check.times(12, "give 1;") + "if 1=2{give 1;}", WHOLE), 1, 16, 12, 0);
    }

    private static void thousandAndFirstStep() {
        Sentences.of("Terms II", "At the 1001st STEP the RUN is LONG.");
        String[] steps = {"set z=k+k;", "set z=k-k;", "set z=k*k;", "set z=k/k;", "set z=abs(k);", "set z=min(k,z);", "set z=max(k,z);",
            "if k<z{}", "if k>z{}", "if k=z{}"};
        for (int i = 0; i < steps.length; i++) {
            boolean sign = i >= 7;
            SlopeRunner x = ran(LOOP + "give 1;" + steps[i] + "give 2;", WHOLE, 499, 1);
            dueRan(x, 1000, LOOP_TAPE + 2 + (sign ? 0 : 1), 2, 1);
            SlopeRunner y = ran(LOOP + "give 1;set k=k+k;" + steps[i] + "give 2;", LONG, 499, 1);
            dueRan(y, 1000, LOOP_TAPE + 2 + 1, 1, 1);
        }
        SlopeRunner x = ran(LOOP, WHOLE, 499, 1);
        dueRan(x, LOOP_STEPS, LOOP_TAPE, 0, 1);
        x.put(0, 500, 1);
        Check.due("run", x.run(), LONG);
        dueRan(x, 1000, LOOP_TAPE + 1, 0, 0);
    }

    private static void thousandAndFirstCountsNothing() {
        Sentences.of("Promise 12", "the 1001st not");
        String[] edges = {"set z=abs(z);", "set z=min(z,z);", "set z=max(z,z);", "if z<z{}", "if z>z{}", "if z=z{}"};
        for (String each : edges) {
            SlopeRunner x = ran(LOOP + each, WHOLE, 997, 2);
            Check.due("steps", x.ran(0), 1000);
            Check.due("edges with the 1000th", x.ran(3), 1);
            Check.dueNear(x, 0, 1);
            SlopeRunner y = ran(LOOP + "set k=k+k;" + each, LONG, 997, 2);
            Check.due("steps", y.ran(0), 1000);
            Check.due("edges with the 1001st", y.ran(3), 0);
            Check.dueNear(y, 1, 2);
        }
    }

    private static void stuckAtTheThousandth() {
        Sentences.of("Promise 12", "0 STEPS (those of SIGNS, too; the one that was STUCK, the 1001st not)");
        dueRan(ran(LOOP + "set z=k/z;", STUCK, 499, 1), 999, LOOP_TAPE, 0, 1);
        // The 1001st is not worked, and so not stuck.
        dueRan(ran(LOOP + "set k=k+k;set z=k/z;", LONG, 499, 1), 1000, LOOP_TAPE + 1, 0, 1);
        dueRan(ran("give 1/0;", STUCK), 0, 3, 0, 0);
        dueRan(ran("if 1<2{give 1/0;}", STUCK), 1, 5, 0, 0);
    }

    private static void noStepBehindTheThousandth() {
        Sentences.of("Promise 12", "(those of SIGNS, too; the one that was STUCK, the 1001st not)");
        // What is no step can be done, and can be stuck, when 1000 have been worked.
        dueRan(ran(LOOP + "set k=k+k;set z=k;set r[n-n]=z;", LONG, 499, 1), 1000, LOOP_TAPE + 1, 0, 1);
        dueRan(ran(LOOP + "set k=k+k;set r[z]=k;give r[z];", WHOLE, 499, 1), 1000, LOOP_TAPE + 1, 1, 1);
        dueRan(ran(LOOP + "set k=k+k;give r[k];", STUCK, 499, 1), 1000, LOOP_TAPE + 1, 0, 1);
        dueRan(ran(LOOP + "set k=k+k;" + Check.times(13, "give k;"), STUCK, 499, 1), 1000, LOOP_TAPE + 1, 12, 1);
    }

    private static void givenAheadStands() {
        Sentences.of("Terms II", "It is WHOLE, STUCK or LONG; what was given ahead of that stands.");
        SlopeRunner x = ran("input a;give a*2;give 1/a;give 3;", STUCK);
        dueRan(x, 1, 6, 1, 0);
        Check.dueResult(x, 0, 0, 1);
        Check.dueResult(x, 1, 0, 0);
        Check.dueSlope(x, 0, 0, 2, 1);
        Check.due("moves", x.moves(0), 1);
        SlopeRunner y = ran("input a;give a*3;while a=a{}give 1;", LONG, 2, 1);
        dueRan(y, 1000, 5, 1, 999);
        Check.dueResult(y, 0, 6, 1);
        Check.dueSlope(y, 0, 0, 3, 1);
        Check.dueTwice(y, 0, 0, 0, 0, 1);
        Check.due("ways", y.ways(0, 0), 1);
        Check.due("groups", y.groups(), 1);
    }

    private static void edgesOfEach() {
        Sentences.of("Terms II", "EDGES: how many times both sides of a SIGN, of a min or max, or abs and 0 were like.");
        String[] of = {"if a<b{}", "if a>b{}", "if a=b{}", "give min(a,b);", "give max(a,b);"};
        int[][] unlike = {{2, 1, 1, 1}, {1, 1, 2, 1}, {1, MOST, 0, 1}, {0, 1, 1, MOST}, {MOST, 1, -MOST, 1}, {1, 1, -1, 1},
            {999999999, MOST, 1, 1}, {1, MOST, 1, 999999999}};
        for (String each : of) {
            for (int[] f : unlike) {
                Check.due(each, ran("input a;input b;" + each, WHOLE, f).ran(3), 0);
            }
            Check.due(each, ran("input a;input b;" + each, WHOLE, 2, 4, 1, 2).ran(3), 1);
            Check.due(each, ran("input a;input b;" + each, WHOLE, -MOST, 1, -MOST, 1).ran(3), 1);
        }
        Check.due("abs of 0", ran("input a;give abs(a);", WHOLE).ran(3), 1);
        Check.due("abs near 0", ran("input a;give abs(a);", WHOLE, 1, MOST).ran(3), 0);
        Check.due("abs near 0", ran("input a;give abs(a);", WHOLE, -1, MOST).ran(3), 0);
        Check.due("no test", ran("input a;give a+a-a*a;", WHOLE, 1, 1).ran(3), 0);
    }

    private static void edgesHowManyTimes() {
        Sentences.of("Terms II", "how many times");
        Check.due("in a loop", ran("var k;var z;while k<5{set k=k+1;set z=abs(z);}", WHOLE).ran(3), 6);
        Check.due("999 times", ran("give 1+1;while 1=1{}", LONG).ran(3), 999);
        Check.due("1000 times", ran("while 1=1{}", LONG).ran(3), 1000);
        Check.due("ahead of where it is stuck", ran("if 1=1{give 1/0;}if 1=1{}", STUCK).ran(3), 1);
    }

    private static void nearLeast() {
        Sentences.of("Terms II", "NEAR: the least difference");
        Check.dueNear(ran("if 1<4{}if 1<3{}if 1<9{}", WHOLE), 2, 1);
        Check.dueNear(ran("if 1<3{}if 1<4{}", WHOLE), 2, 1);
        Check.dueNear(ran("give min(7,2);give max(1,5);if 9>3{}", WHOLE), 4, 1);
        Check.dueNear(ran("if 1/3<1/2{}if 1/4<1/3{}", WHOLE), 1, 12);
        Check.dueNear(ran("if 1=1{}if 1<9{}", WHOLE), 0, 1);
        Check.dueNear(ran("input a;if a<1{}", WHOLE, 999999999, MOST), 1, MOST);
    }

    private static void nearWithoutItsSign() {
        Sentences.of("Terms II", "without its sign");
        String[] of = {"if a<b{}", "if a>b{}", "if a=b{}", "give min(a,b);", "give max(a,b);"};
        for (String each : of) {
            Check.dueNear(ran("input a;input b;" + each, WHOLE, 7, 2, 2, 1), 3, 2);
            Check.dueNear(ran("input a;input b;" + each, WHOLE, 2, 1, 7, 2), 3, 2);
            Check.dueNear(ran("input a;input b;if 0<1{}" + each, WHOLE, 2, 1, 7, 2), 1, 1);
        }
    }

    private static void nearOfAbs() {
        Sentences.of("Terms II", "of abs its number");
        Check.dueNear(ran("input a;give abs(a);", WHOLE, 3, 2), 3, 2);
        Check.dueNear(ran("input a;give abs(a);", WHOLE, -3, 2), 3, 2);
        Check.dueNear(ran("input a;give abs(a);", WHOLE, -MOST, 1), MOST, 1);
        Check.dueNear(ran("input a;give abs(a);", WHOLE, 1, MOST), 1, MOST);
        Check.dueNear(ran("input a;give abs(a);", WHOLE), 0, 1);
    }

    private static void nearStuckLeftOut() {
        Sentences.of("Terms II", "those that would be STUCK left out");
        String[] of = {"if a<b{}", "if a>b{}", "if a=b{}", "give min(a,b);", "give max(b,a);"};
        for (String each : of) {
            String text = "input a;input b;" + each;
            Check.dueNear(ran(text, WHOLE, 999999999, 1, -1, 1), MOST, 1);
            Check.dueNear(ran(text, WHOLE, MOST, 1, -1, 1), 0, 0);
            Check.dueNear(ran(text, WHOLE, -1, 1, MOST, 1), 0, 0);
            Check.dueNear(ran(text, WHOLE, 1, 512, 1, 1953125), 1952613, MOST);
            Check.dueNear(ran(text, WHOLE, 1, 1001, 1, 999001), 0, 0);
            Check.dueNear(ran(text + "if 9<4{}", WHOLE, 1, 1001, 1, 999001), 5, 1);
            Check.dueNear(ran("input a;input b;if 9<4{}" + each, WHOLE, 1, 1001, 1, 999001), 5, 1);
        }
    }

    private static void nearNoneWithout() {
        Sentences.of("Terms II", "none without such.");
        Check.dueNear(ran("", WHOLE), 0, 0);
        Check.dueNear(ran("give 1+1-2*3/4;", WHOLE), 0, 0);
        Check.dueNear(ran("give 1/0;if 1=1{}", STUCK), 0, 0);
        SlopeRunner x = ran("input a;if a<5{}", WHOLE);
        Check.dueNear(x, 5, 1);
        Check.take(x, "give 1;");
        x.run();
        Check.dueNear(x, 0, 0);
        SlopeRunner y = ran("input a;give 1/a;give abs(a);", WHOLE, 1, 1);
        Check.dueNear(y, 1, 1);
        y.put(0, 0, 1);
        y.run();
        Check.dueNear(y, 0, 0);
    }

    private static void runAnswers() {
        Sentences.of("Promise 11", "A RUN: 0 WHOLE, 1 STUCK, 2 LONG.");
        SlopeRunner x = Check.make("input a;give 6/a;while a<1{}");
        int[][] tries = {{1, 1, 0}, {0, 1, 1}, {1, 2, 2}, {0, 1, 1}, {2, 1, 0}, {-1, 1, 2}};
        for (int[] each : tries) {
            x.put(0, each[0], each[1]);
            Check.due("run with " + each[0] + "/" + each[1], x.run(), each[2]);
        }
        Check.due("run of a new one", new SlopeRunner().run(), WHOLE);
        // What a run leaves half worked is not there for the next.
        SlopeRunner y = Check.make("input a;give 1+(2+(3+(4+(5+6/a))));");
        for (int i = 0; i < 100; i++) {
            Check.due("run with 0", y.run(), STUCK);
        }
        y.put(0, 2, 1);
        Check.due("run with 2", y.run(), WHOLE);
        Check.dueResult(y, 0, 18, 1);
    }

    private static void ranStuckAndLongNot() {
        Sentences.of("Promise 12", "1 what is on THE TAPE, 2 RESULTS, 3 EDGES");
        dueRan(ran("input a;give a;give abs(a);give 1/a;", STUCK), 1, 4, 2, 1);
        dueRan(ran("input a;give a;give abs(a);give 1/a;", WHOLE, 1, 1), 2, 5, 3, 0);
    }

    private static void ranNoneWithoutARun() {
        Sentences.of("Promise 12", "NONE without one");
        SlopeRunner x = new SlopeRunner();
        for (int what = 0; what <= 3; what++) {
            Check.due("ran " + what + " of a new one", x.ran(what), SlopeRunner.NONE);
        }
        x.run();
        for (int what = 0; what <= 3; what++) {
            Check.due("ran " + what, x.ran(what), what == 1 ? 1 : 0);
        }
        x.program();
        for (int what = 0; what <= 3; what++) {
            Check.due("ran " + what + " behind program", x.ran(what), SlopeRunner.NONE);
        }
    }

    private static void ranNoneForOthers() {
        Sentences.of("Promise 12", "or for others.");
        SlopeRunner x = ran("input a;give abs(a);", WHOLE);
        int[] others = {4, 5, -1, -2, Integer.MIN_VALUE, Integer.MAX_VALUE};
        for (int what : others) {
            Check.due("ran " + what, x.ran(what), SlopeRunner.NONE);
        }
    }

    private static void resultNoneSuch() {
        Sentences.of("Promise 13", "NO when there is none such.");
        SlopeRunner x = Check.make("give 7;give 8/3;");
        Check.dueResult(x, 0, 0, 0);
        x.run();
        Check.dueResult(x, 0, 7, 1);
        Check.dueResult(x, 1, 8, 3);
        int[] none = {2, 3, 11, 12, -1, Integer.MIN_VALUE, Integer.MAX_VALUE};
        for (int r : none) {
            Check.dueResult(x, r, 0, 0);
        }
    }

    private static void resultOfTheLatest() {
        Sentences.of("Promise 13", "A RESULT of it");
        SlopeRunner x = Check.make("input a;give a;if a<4{give 2;}");
        x.run();
        Check.dueResult(x, 1, 2, 1);
        x.put(0, 9, 1);
        Check.dueResult(x, 0, 0, 1);
        Check.dueResult(x, 1, 2, 1);
        x.run();
        Check.dueResult(x, 0, 9, 1);
        Check.dueResult(x, 1, 0, 0);
    }

    private static void nearLikewise() {
        Sentences.of("Promise 14", "NEAR of it: likewise.");
        SlopeRunner x = Check.make("input a;if a<7{}");
        Check.dueNear(x, 0, 0);
        Check.dueNear(new SlopeRunner(), 0, 0);
        x.put(0, 1, 3);
        x.run();
        Check.dueNear(x, 20, 3);
        x.put(0, 7, 1);
        Check.dueNear(x, 20, 3);
        x.run();
        Check.dueNear(x, 0, 1);
    }
}
