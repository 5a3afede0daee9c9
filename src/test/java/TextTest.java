/** Promises 1 to 6: a new object, feed, end, program, fault, has. */
public final class TextTest {
    private TextTest() {
    }

    public static void main(String[] args) {
        newObject();
        feeding();
        ending();
        taking();
        faultsLeaveAll();
        grammarFaults();
        wordFaults();
        numberFaults();
        nameFaults();
        depthFaults();
        countFaults();
        goodPrograms();
        oneBehindAnother();
        counting();
        Check.finish();
    }

    private static void newObject() {
        SlopeRunner x = new SlopeRunner();
        for (int what = 0; what <= 4; what++) {
            Check.due("has of a new one", x.has(what), 0);
            Check.due("ran of a new one", x.ran(what), SlopeRunner.NONE);
        }
        Check.due("fault of a new one", x.fault(0), 0);
        Check.due("fault's place of a new one", x.fault(1), SlopeRunner.NONE);
        Check.due("run of a new one", x.run(), 0);
        Check.due("its tape", x.ran(1), 1);
    }

    private static void feeding() {
        SlopeRunner x = new SlopeRunner();
        for (int i = 1; i <= 35; i++) {
            Check.due("feed", x.feed(-1, 0, 1, Integer.MIN_VALUE, 5), 20 * i);
        }
        Check.due("feed beyond 700", x.feed(0, 0, 0, 0, 0), SlopeRunner.NONE);
        Check.due("cut to 681", x.end(681), true);
        Check.due("feed to 701", x.feed(0, 0, 0, 0, 0), SlopeRunner.NONE);
        Check.due("cut to 680", x.end(680), true);
        Check.due("feed to 700", x.feed(0, 0, 0, 0, 0), 700);
        // The bytes of "give 1;give 2;give 3;", the highest of each number first.
        SlopeRunner y = new SlopeRunner();
        y.feed(0x67697665, 0x20313b67, 0x69766520, 0x323b6769, 0x76652033);
        y.feed(0x3b202020, 0x20202020, 0x20202020, 0x20202020, 0x20202020);
        Check.due("bytes in order", y.program(), 3);
    }

    private static void ending() {
        SlopeRunner x = new SlopeRunner();
        Check.due("end(0) of none", x.end(0), true);
        Check.due("end(1) of none", x.end(1), false);
        Check.feed(x, "give 1;give 2;      ");
        Check.due("end(-1)", x.end(-1), false);
        Check.due("end(least)", x.end(Integer.MIN_VALUE), false);
        Check.due("end(21)", x.end(21), false);
        Check.due("end(20)", x.end(20), true);
        Check.due("end(7)", x.end(7), true);
        Check.due("end(8)", x.end(8), false);
        Check.due("program of the first seven", x.program(), 1);
        // What was cut off is not there, though it would make a word whole.
        Check.feed(x, "while 1 = 1 { }");
        x.end(4);
        Check.due("program of whil", x.program(), SlopeRunner.NONE);
        Check.due("fault's place of whil", x.fault(1), 0);
    }

    private static void taking() {
        SlopeRunner x = Check.make("input a; var v; row r [ 2 ]; give a;");
        x.put(0, 3, 1);
        x.put(0, 4, 1);
        x.undo();
        x.run();
        x.groups();
        Check.due("group ahead", x.group(0), 0);
        Check.due("the tape has gone", x.feed(0x20202020, 0x20202020, 0x20202020, 0x20202020, 0x20202020), 20);
        Check.due("program of blanks", x.program(), 0);
        Check.due("statements", x.has(3), 0);
        Check.due("inputs", x.has(0), 0);
        Check.due("no group", x.group(0), SlopeRunner.NONE);
        Check.due("no run", x.ran(0), SlopeRunner.NONE);
        Check.take(x, "input a; input b; give a + b;");
        Check.dueInput(x, 0, 0, 1);
        Check.due("undo behind program", x.undo(), false);
        Check.due("redo behind program", x.redo(), false);
        Check.due("groups behind program", x.groups(), SlopeRunner.NONE);
        Check.dueResult(x, 0, 0, 0);
        Check.dueNear(x, 0, 0);
        Check.due("moves behind program", x.moves(0), SlopeRunner.NONE);
    }

    private static void faultsLeaveAll() {
        SlopeRunner x = Check.make("input a; row r [ 3 ]; give a * 2; give max(a, 7);");
        x.put(0, 3, 1);
        x.put(0, 5, 2);
        x.undo();
        x.run();
        x.groups();
        Check.feed(x, "input b; var c; give b + 1; give");
        Check.due("program with a fault", x.program(), SlopeRunner.NONE);
        Check.due("fault", x.fault(0), 1);
        Check.due("place", x.fault(1), 32);
        Check.due("fault(2)", x.fault(2), SlopeRunner.NONE);
        Check.due("fault(-1)", x.fault(-1), SlopeRunner.NONE);
        Check.due("inputs stay", x.has(0), 1);
        Check.due("rows stay", x.has(1), 1);
        Check.due("vars stay", x.has(2), 0);
        Check.due("statements stay", x.has(3), 4);
        Check.due("numbers stay", x.has(4), 2);
        Check.dueResult(x, 0, 6, 1);
        Check.dueNear(x, 4, 1);
        Check.due("groups stay", x.group(0), 0);
        Check.dueInput(x, 0, 3, 1);
        Check.dueDifference(x, 0, 0, 1, 3, 2, 1);
        Check.due("redo stays", x.redo(), true);
        Check.due("the run again", x.run(), 0);
        Check.dueResult(x, 0, 5, 1);
        Check.due("the tape has gone all the same", x.end(1), false);
        Check.take(x, "give 1;");
        Check.due("fault mended", x.fault(0), 0);
        Check.due("place mended", x.fault(1), SlopeRunner.NONE);
    }

    private static void grammarFaults() {
        Check.dueFault("}", 1, 0);
        Check.dueFault(";", 1, 0);
        Check.dueFault("  ?", 1, 2);
        Check.dueFault("\tgive 1;", 1, 0);
        Check.dueFault("give 1;\r\n", 1, 7);
        Check.dueFault("give 1;" + (char) 0, 1, 7);
        Check.dueFault("give 1;" + (char) 228, 1, 7);
        Check.dueFault("else { }", 1, 0);
        Check.dueFault("abs(1);", 1, 0);
        Check.dueFault("give 1; }", 1, 8);
        Check.dueFault("give 1;;", 1, 7);
        Check.dueFault("if 1 = 1 { };", 1, 12);
        Check.dueFault("if 1 = 1 { } else give 1;", 1, 18);
        Check.dueFault("if 1 = 1 { } else { } else { }", 1, 22);
        Check.dueFault("while 1 = 1 { } else { }", 1, 16);
        Check.dueFault("if (1 = 1) { }", 1, 6);
        Check.dueFault("if [1] = 1 { }", 1, 5);
        Check.dueFault("if 1 < 2 < 3 { }", 1, 9);
        Check.dueFault("if 1 << 2 { }", 1, 6);
        Check.dueFault("if not { }", 1, 7);
        Check.dueFault("if 1 = 1 and { }", 1, 13);
        Check.dueFault("if 1 = 1 or or 2 = 2 { }", 1, 12);
        Check.dueFault("give -1;", 1, 5);
        Check.dueFault("give 1 +;", 1, 8);
        Check.dueFault("give 1 * * 2;", 1, 9);
        Check.dueFault("give ();", 1, 6);
        Check.dueFault("give (1;", 1, 7);
        Check.dueFault("give 1);", 1, 6);
        Check.dueFault("give [1];", 1, 5);
        Check.dueFault("give min(1);", 1, 10);
        Check.dueFault("give max(1, 2, 3);", 1, 13);
        Check.dueFault("give abs(1, 2);", 1, 10);
        Check.dueFault("give 1 2;", 1, 7);
        Check.dueFault("give 1", 1, 6);
        Check.dueFault("give 1  \n ", 1, 10);
        Check.dueFault("give", 1, 4);
        Check.dueFault("input a; set a + 1;", 1, 15);
        Check.dueFault("input a; give a a;", 1, 16);
        Check.dueFault("row r [ 2 ]; set r = 1;", 1, 19);
        Check.dueFault("row r [ 2 ]; give r", 1, 19);
        Check.dueFault("row r [ 2 ]; give r [ ];", 1, 22);
        Check.dueFault("row r [ 2 ]; give r [ 1 ) ;", 1, 24);
        Check.dueFault("var v; set v [ 0 ] = 1;", 1, 13);
        Check.dueFault("row r [ 1 + 1 ];", 1, 10);
        Check.dueFault("row r [ ];", 1, 8);
        Check.dueFault("row r 3;", 1, 6);
        Check.dueFault("input a, b;", 1, 7);
        Check.dueFault("while 1 = 1 { var v; }", 1, 14);
        Check.dueFault("if 1 = 1 { } else { row r [ 1 ]; }", 1, 20);
        Check.dueFault("while 1 = 1 {", 1, 13);
    }

    private static void wordFaults() {
        Check.dueFault("givex 1;", 1, 0);
        Check.dueFault("GIVE 1;", 1, 0);
        Check.dueFault("abcdefghi 1;", 1, 0);
        Check.dueFault("input 1;", 1, 6);
        Check.dueFault("input 12345;", 1, 6);
        Check.dueFault("input while;", 1, 6);
        Check.dueFault("var max;", 1, 4);
        Check.dueFault("set abs = 1;", 1, 4);
        Check.dueFault("give input;", 1, 5);
        Check.dueFault("give 1 abcdefgh;", 1, 7);
        Check.dueFault("give 1 12345;", 1, 7);
        Check.dueFault("give abcdefg;", 1, 11);
        Check.dueFault("set abcdefgh = 1;", 1, 10);
        Check.dueFault("row abcdefg [ 2 ];", 1, 10);
        Check.dueFault("row r [ abcdefg ];", 1, 8);
        // Words and numbers side by side need a blank.
        Check.dueFault("give1;", 1, 4);
        Check.dueFault("give12345;", 1, 4);
        Check.dueFault("input a1;", 1, 7);
        Check.dueFault("input a; give 2a;", 1, 15);
        Check.dueFault("if 1 = 1or 2 = 2 { }", 1, 8);
        Check.dueFault("if 1 = 1 and2 = 2 { }", 1, 12);
        Check.dueFault("if not1 = 1 { }", 1, 6);
        Check.dueFault("while1 = 1 { }", 1, 5);
    }

    private static void numberFaults() {
        Check.dueFault("row r [ 0 ];", 2, 8);
        Check.dueFault("row r [0000];", 2, 7);
        Check.dueFault("row r [ 17 ;", 2, 8);
        Check.dueFault("row r [ 9999 ];", 2, 8);
        Check.dueFault("row r [ 00016 ];", 1, 12);
        Check.dueFault("give 00001;", 1, 9);
        Check.dueFault("give 1 + 99999;", 1, 13);
        Check.dueGood("row r [ 0016 ]; row s[1];", 2);
        Check.dueGood("give 0; give 0000; give 9999;", 3);
    }

    private static void nameFaults() {
        Check.dueFault("give a;", 3, 5);
        Check.dueFault("give a; input a;", 3, 5);
        Check.dueFault("give cow1;", 3, 5);
        Check.dueFault("input a; var a;", 3, 13);
        Check.dueFault("row a [ 2 ]; input a;", 3, 19);
        Check.dueFault("var a; row a;", 3, 11);
        Check.dueFault("input a; set a = A;", 3, 17);
        Check.dueFault("input a; give a + min(a, ab);", 3, 25);
        Check.dueFault("if a = 1 { input b; }", 3, 3);
        Check.dueFault("input ab; give a;", 3, 15);
        Check.dueGood("input z; var Z; var az; var AZ; give z + Z + az + AZ;", 5);
        Check.dueGood("input a; var A; row aa [ 1 ]; var aaaaaa; input aaaaab;", 5);
    }

    private static void depthFaults() {
        Check.dueGood("give " + Check.times(8, "(") + "1" + Check.times(8, ")") + ";", 1);
        Check.dueFault("give " + Check.times(9, "(") + "1" + Check.times(9, ")") + ";", 4, 13);
        Check.dueGood("if " + Check.times(8, "[") + "1 = 1" + Check.times(8, "]") + " { }", 1);
        Check.dueFault("if " + Check.times(9, "[") + "1 = 1", 4, 11);
        Check.dueGood("if " + Check.times(8, "not ") + "1 = 1 { }", 1);
        Check.dueFault("if " + Check.times(9, "not ") + "1 = 1 { }", 4, 35);
        Check.dueFault("if " + Check.times(8, "not ") + "(1) = 1 { }", 4, 35);
        Check.dueGood("if " + Check.times(7, "not ") + "(1) = (1) and " + Check.times(8, "not ") + "1 = 1 { }", 1);
        Check.dueGood("if " + Check.times(4, "not [") + "1 = 1" + Check.times(4, "]") + "{ if 1 = 1 { } }", 2);
        Check.dueGood(Check.times(8, "if 1=1{") + Check.times(8, "}"), 8);
        Check.dueFault(Check.times(8, "if 1=1{") + "while 1 = 1 {", 4, 68);
        Check.dueFault(Check.times(8, "if 1=1{") + "give 1; give abs(1);", 4, 72);
        Check.dueGood(Check.times(7, "if 1=1{") + "give abs(1) + min(1, 2) + (3);" + Check.times(7, "}else{}"), 8);
        Check.dueFault("row r [ 2 ]; give " + Check.times(8, "r[") + "r [ 0 ]", 4, 36);
        Check.dueFault("row r [ 2 ]; set " + Check.times(9, "r["), 4, 34);
        Check.dueFault("var r; give " + Check.times(8, "(") + "r [ 0 ]", 1, 22);
    }

    private static void countFaults() {
        String eight = "input a;input b;input c;input d;input e;input f;input g;input h;";
        Check.dueGood(eight, 8);
        Check.dueFault(eight + " input i;", 5, 65);
        Check.dueFault(eight + " input;", 5, 65);
        Check.dueFault(eight + "if 1 = 1 { input i; }", 1, 75);
        String four = "row a[1];row b[1];row c[1];row d[1];";
        Check.dueGood(four, 4);
        Check.dueFault(four + "row a[1];", 5, 36);
        String twelve = "var a;var b;var c;var d;var e;var f;var g;var h;var i;var j;var k;var l;";
        Check.dueGood(twelve, 12);
        Check.dueFault(twelve + "\nvar", 5, 73);
        String eighty = Check.times(80, "give 1;");
        Check.dueGood(eighty, 80);
        Check.dueGood(eighty + " \n ", 80);
        Check.dueFault(eighty + "give 1;", 5, 560);
        Check.dueFault(eighty + " ?", 5, 561);
        Check.dueFault(eighty + "}", 5, 560);
        Check.dueFault(eighty + "12345", 5, 560);
        String within = Check.times(79, "give 1;") + "if 1 = 1 {";
        Check.dueGood(within + "}", 80);
        Check.dueGood(within + "} else { }", 80);
        Check.dueFault(within + "} else { input", 5, 572);
        Check.dueFault(within + "}}", 5, 564);
        Check.dueFault(within, 1, 563);
        Check.dueFault(within + " input a; }", 5, 564);
    }

    private static void goodPrograms() {
        Check.dueGood("", 0);
        Check.dueGood(" \n", 0);
        Check.dueGood("if 1=1{}else{}", 1);
        Check.dueGood("if 1=1{}while 2>1{}", 2);
        Check.dueGood("input\na\n;give(a)*abs(a)/min(a,1)-max(1,a);", 2);
        Check.dueGood("input a;if not[a=1 or a<2 and not a>3]{set a=a;}else{give a;}", 4);
        Check.dueGood("input inputs; input se; var andy; give inputs + se - andy;", 4);
    }

    /** Nothing of a program, or of a fault, is left when the next one is read. */
    private static void oneBehindAnother() {
        SlopeRunner x = new SlopeRunner();
        String[] wrong = {"give (((((((", "if 1 = 1 { if not [ 2 = (", "give abcdefgh;", "row r [ 3 ]; give 12345;", "input a; input a;"};
        for (String text : wrong) {
            Check.take(x, "input a; row r [ 2 ]; var v; give a + 1; give ((((((((2))))))));");
            Check.due("inputs", x.has(0), 1);
            Check.due("rows", x.has(1), 1);
            Check.due("vars", x.has(2), 1);
            Check.due("statements", x.has(3), 5);
            Check.due("numbers", x.has(4), 2);
            x.put(0, 4, 1);
            x.run();
            Check.dueResult(x, 0, 5, 1);
            Check.dueResult(x, 1, 2, 1);
            Check.due("steps", x.ran(0), 1);
            Check.feed(x, text);
            Check.due("program of \"" + text + "\"", x.program(), SlopeRunner.NONE);
            Check.feed(x, "give 1; ?");
            Check.due("program of rubbish", x.program(), SlopeRunner.NONE);
            Check.due("its place", x.fault(1), 8);
        }
    }

    private static void counting() {
        SlopeRunner x = Check.make("input a; row r [ 3 ]; var v; row s [ 16 ]; var w; var u;"
                + " if 1 < a { set r [ 0 ] = 22; } while 5 = 6 { give abs(7) + 8; }");
        Check.due("inputs", x.has(0), 1);
        Check.due("rows", x.has(1), 2);
        Check.due("vars", x.has(2), 3);
        Check.due("statements", x.has(3), 10);
        Check.due("numbers", x.has(4), 7);
        Check.due("has(5)", x.has(5), SlopeRunner.NONE);
        Check.due("has(-1)", x.has(-1), SlopeRunner.NONE);
        Check.due("most numbers", Check.make("give 1" + Check.times(346, "+1") + ";").has(4), 347);
    }
}
