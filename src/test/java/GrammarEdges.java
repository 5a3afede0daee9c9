/** Terms I: what a program's text may be, and how much of each there may be. */
final class GrammarEdges {
    static final String[] OWN = {"input", "row", "var", "set", "give", "if", "else", "while", "and", "or", "not", "abs",
        "min", "max"};
    private static final String EIGHT_INPUTS = "input a;input b;input c;input d;input e;input f;input g;input h;";
    private static final String FOUR_ROWS = "row A[1];row B[1];row C[1];row D[1];";
    private static final String TWELVE_VARS =
            "var k;var l;var m;var n;var o;var p;var q;var r;var s;var t;var u;var v;";

    private GrammarEdges() {
    }

    static void all() {
        blanks();
        blanksWhereOneLikes();
        wordsAndNumbersSideBySide();
        anyNumberOfStatements();
        eightInputs();
        onePlaceToSixteen();
        fourRows();
        twelveVars();
        allAtOnce();
        eightyStatements();
        noBraces();
        perhapsElse();
        namesOneToSixLetters();
        namesAreLetters();
        namesNoOwnWord();
        namesUnlike();
        numbersOneToFourDigits();
        numbersAreDigits();
        factsAndTests();
        allFromTheLeftOn();
    }

    private static boolean isLetter(int b) {
        return b >= 65 && b <= 90 || b >= 97 && b <= 122;
    }

    private static boolean isDigit(int b) {
        return b >= 48 && b <= 57;
    }

    private static void blanks() {
        Sentences.of("Terms I", "blanks (10, 32)");
        for (int b = 0; b < 256; b++) {
            String text = "give 7;" + (char) b + "give 8;";
            if (b == 10 || b == 32) {
                Check.dueGood(text, 2);
            } else {
                Check.dueFault(text, 1, 7);
            }
        }
    }

    private static void blanksWhereOneLikes() {
        Sentences.of("Terms I", "between where one likes");
        String close = "input a;row r[2];var v;set r[a+1]=(a-2)*3/abs(v);give min(a,max(v,1));"
                + "if not[a<1 or v>2]and a=3{give 1;}else{}while a<v{}";
        String wide = "\n input \n a ; row r [ 2 ] ;\nvar  v;set r [ a + 1 ] = ( a - 2 ) * 3 / abs ( v ) ; give min ( a , max ( v , 1 ) ) ;"
                + " if  not [ a < 1 or v > 2 ] and a = 3 { give 1 ; } else { } while a < v { } \n";
        Check.dueGood(close, 8);
        Check.dueGood(wide, 8);
        // Not within a word, a number.
        Check.dueFault("gi ve 1;", 1, 0);
        Check.dueFault("give 1 2;", 1, 7);
        Check.dueFault("input a b;", 1, 8);
    }

    private static void wordsAndNumbersSideBySide() {
        Sentences.of("Terms I", "(words and numbers side by side need one)");
        Check.dueFault("inputa;", 1, 0);
        Check.dueFault("give1;", 1, 4);
        Check.dueFault("input a;givea;", 1, 8);
        Check.dueFault("if 1=1or 1=1{}", 1, 6);
        Check.dueFault("if 1=1and 1=1{}", 1, 6);
        Check.dueFault("if not1=1{}", 1, 6);
        Check.dueFault("while1=1{}", 1, 5);
        Check.dueFault("if 1=1 or1=1{}", 1, 9);
        Check.dueGood("give(1);", 1);
        Check.dueGood("if[1=1]or[1=1]and[1=1]{}", 1);
        Check.dueGood("if 1=1{}else{}", 1);
    }

    private static void anyNumberOfStatements() {
        Sentences.of("Terms I", "{ STATEMENT }.");
        Check.dueGood("", 0);
        Check.dueGood(Check.times(700, "\n"), 0);
        Check.dueGood("if 1=1{}", 1);
        Check.dueGood("if 1=1{give 1;give 2;}else{give 3;give 4;}", 5);
    }

    private static void eightInputs() {
        Sentences.of("Terms I", "input NAME ; (8 at most)");
        Check.dueGood(EIGHT_INPUTS, 8);
        Check.dueFault(EIGHT_INPUTS + "input i;", 5, 64);
        Check.due("inputs", Check.make(EIGHT_INPUTS).has(0), 8);
        Check.dueGood(EIGHT_INPUTS + FOUR_ROWS + TWELVE_VARS, 24);
    }

    private static void onePlaceToSixteen() {
        Sentences.of("Terms I", "row NAME [ N ] ; (1 .. 16 PLACES; 4 at most)");
        for (int n = 0; n <= 20; n++) {
            String text = "row r[" + n + "];";
            if (n >= 1 && n <= 16) {
                Check.dueGood(text, 1);
                duePlaces(n);
            } else {
                Check.dueFault(text, 2, 6);
            }
        }
        Check.dueFault("row r[9999];", 2, 6);
    }

    /** All places of a row can be set, and none beyond. */
    private static void duePlaces(int n) {
        SlopeRunner x = Check.make("input i;row q[1];row r[" + n + "];row s[1];set r[i]=5;give r[i]+q[0]+s[0];");
        for (int i = -1; i <= n; i++) {
            x.put(0, i, 1);
            boolean there = i >= 0 && i < n;
            Check.due("run with place " + i + " of " + n, x.run(), there ? 0 : 1);
            Check.dueResult(x, 0, 5, there ? 1 : 0);
        }
    }

    private static void fourRows() {
        Sentences.of("Terms I", "4 at most");
        Check.dueGood(FOUR_ROWS, 4);
        Check.dueFault(FOUR_ROWS + "row E[1];", 5, 36);
        Check.due("rows", Check.make(FOUR_ROWS).has(1), 4);
    }

    private static void twelveVars() {
        Sentences.of("Terms I", "var NAME ; (12 at most)");
        Check.dueGood(TWELVE_VARS, 12);
        Check.dueFault(TWELVE_VARS + "var w;", 5, 72);
        Check.due("vars", Check.make(TWELVE_VARS).has(2), 12);
    }

    /** As many inputs, rows of sixteen and vars as there can be: each place holds what is its own. */
    private static void allAtOnce() {
        Sentences.of("Terms I", "row NAME [ N ] ; (1 .. 16 PLACES; 4 at most) var NAME ; (12 at most)");
        String names = EIGHT_INPUTS + FOUR_ROWS.replace("1", "16") + TWELVE_VARS;
        String[] rows = {"A", "B", "C", "D"};
        String[] singles = {"a", "h", "k", "l", "u", "v"};
        for (String row : rows) {
            for (String single : singles) {
                SlopeRunner x = Check.make(names + "while " + row + "[15]<16{set " + row + "[o]=o+1;set o=o+1;}set " + single
                        + "=99;set o=0;while o<16{if " + row + "[o]=o+1{set n=n+1;}set o=o+1;}give n;give " + single
                        + ";set " + row + "[0]=7;give " + single + ";");
                for (int i = 0; i < 8; i++) {
                    x.put(i, 50 + i, 1);
                }
                Check.due("run with " + row + " and " + single, x.run(), 0);
                Check.dueResult(x, 0, 16, 1);
                Check.dueResult(x, 1, 99, 1);
                Check.dueResult(x, 2, 99, 1);
            }
            SlopeRunner y = Check.make(names + "set " + row + "[0]=5;set " + row + "[15]=6;give A[0]+A[15];give B[0]+B[15];give C[0]+C[15];give D[0]+D[15];"
                    + "give a+h;give k+v;give " + row + "[16];");
            y.put(0, 1, 1);
            y.put(7, 2, 1);
            Check.due("run with place 16 of " + row, y.run(), 1);
            for (int r = 0; r < 4; r++) {
                Check.dueResult(y, r, rows[r].equals(row) ? 11 : 0, 1);
            }
            Check.dueResult(y, 4, 3, 1);
            Check.dueResult(y, 5, 0, 1);
        }
    }

    private static void eightyStatements() {
        Sentences.of("Terms I", "(80 in all, those within others counted, too.)");
        Check.dueGood(Check.times(80, "give 1;"), 80);
        Check.dueFault(Check.times(81, "give 1;"), 5, 560);
        Check.dueGood("if 1=1{" + Check.times(79, "give 1;") + "}", 80);
        Check.dueFault("if 1=1{" + Check.times(80, "give 1;") + "}", 5, 560);
        Check.dueGood("if 1=1{" + Check.times(39, "give 1;") + "}else{" + Check.times(40, "give 1;") + "}", 80);
        Check.dueFault("if 1=1{" + Check.times(39, "give 1;") + "}else{" + Check.times(41, "give 1;") + "}", 5, 566);
        Check.dueGood("while 1=2{while 1=2{" + Check.times(77, "give 1;") + "}}give 1;", 80);
        Check.dueFault("while 1=2{while 1=2{" + Check.times(77, "give 1;") + "}}give 1;give 1;", 5, 568);
        Check.dueGood("input a;row r[1];var v;" + Check.times(77, "set v=a;"), 80);
        Check.dueFault("input a;row r[1];var v;" + Check.times(78, "set v=a;"), 5, 639);
    }

    private static void noBraces() {
        Sentences.of("Terms I", "input, row, var stand in no braces.");
        String[] declarations = {"input b;", "row b[1];", "var b;"};
        for (String each : declarations) {
            Check.dueGood(each, 1);
            Check.dueGood("if 1=1{}" + each, 2);
            Check.dueFault("if 1=1{" + each + "}", 1, 7);
            Check.dueFault("if 1=1{}else{" + each + "}", 1, 13);
            Check.dueFault("while 1=2{" + each + "}", 1, 10);
            Check.dueFault("while 1=2{if 1=1{}" + each + "}", 1, 18);
        }
    }

    private static void perhapsElse() {
        Sentences.of("Terms I", "if TEST { STATEMENTS } and perhaps else { STATEMENTS }");
        Check.dueGood("if 1=1{}", 1);
        Check.dueGood("if 1=1{}else{}", 1);
        Check.dueFault("if 1=1{}else{}else{}", 1, 14);
        Check.dueFault("while 1=2{}else{}", 1, 11);
        Check.dueFault("else{}", 1, 0);
        Check.dueFault("if 1=1{}give 1;else{}", 1, 15);
        Check.dueGood("if 1=1{if 1=1{}else{}}else{}", 2);
        Check.dueFault("if 1=1{};", 1, 8);
    }

    private static void namesOneToSixLetters() {
        Sentences.of("Terms I", "NAMES: 1 to 6 letters");
        for (int n = 1; n <= 9; n++) {
            String name = "abcdefghi".substring(0, n);
            String[] heads = {"input ", "var ", "row "};
            for (String head : heads) {
                String text = head + name + (head.equals("row ") ? "[2];" : ";");
                if (n <= 6) {
                    Check.dueGood(text, 1);
                } else {
                    Check.dueFault(text, 1, head.length() + 6);
                }
            }
        }
        // All six letters count.
        SlopeRunner x = Check.make("var aaaaaa; var aaaaab; var baaaaa; set aaaaaa = 1; set aaaaab = 2; set baaaaa = 3;"
                + " give aaaaaa; give aaaaab; give baaaaa;");
        x.run();
        Check.dueResult(x, 0, 1, 1);
        Check.dueResult(x, 1, 2, 1);
        Check.dueResult(x, 2, 3, 1);
        Check.dueFault("input ;", 1, 6);
    }

    private static void namesAreLetters() {
        Sentences.of("Terms I", "letters");
        for (int b = 33; b < 256; b++) {
            String text = "var " + (char) b + ";";
            if (isLetter(b)) {
                Check.dueGood(text, 1);
            } else {
                Check.dueFault(text, 1, 4);
            }
            String behind = "var q" + (char) b + ";";
            if (isLetter(b)) {
                Check.dueGood(behind, 1);
            } else {
                Check.dueFault(behind, 1, b == ';' ? 6 : 5);
            }
        }
    }

    private static void namesNoOwnWord() {
        Sentences.of("Terms I", "no OWN WORD");
        for (String word : OWN) {
            Check.dueFault("input " + word + ";", 1, 6);
            Check.dueFault("row " + word + "[1];", 1, 4);
            Check.dueFault("var " + word + ";", 1, 4);
            Check.dueFault("set " + word + "=1;", 1, 4);
            Check.dueGood("var " + word + "x;", 1);
            Check.dueGood("var x" + word + ";", 1);
            Check.dueGood("var " + word.substring(1) + ";var " + word.substring(0, word.length() - 1) + "z;", 2);
            Check.dueGood("var " + word.toUpperCase() + ";", 1);
        }
    }

    private static void namesUnlike() {
        Sentences.of("Terms I", "unlike ones");
        String[] kinds = {"input q;", "row q[1];", "var q;"};
        for (String one : kinds) {
            for (String other : kinds) {
                Check.dueFault(one + other, 3, one.length() + other.indexOf('q'));
                Check.dueGood(one + other.replace('q', 'x'), 2);
                Check.dueGood(one + other.replace("q", "qq"), 2);
                Check.dueGood(one + other.replace('q', 'Q'), 2);
            }
        }
        Check.dueFault("input abcdef;var abcdef;", 3, 17);
        Check.dueGood("input abcdef;var abcdeg;", 2);
    }

    private static void numbersOneToFourDigits() {
        Sentences.of("Terms I", "N (1 to 4 digits)");
        String[] good = {"0", "9", "10", "99", "999", "1000", "9999", "0000", "0007"};
        for (String n : good) {
            SlopeRunner x = Check.make("give " + n + ";");
            x.run();
            Check.dueResult(x, 0, Integer.parseInt(n), 1);
        }
        Check.dueFault("give 00000;", 1, 9);
        Check.dueFault("give 10000;", 1, 9);
        Check.dueFault("give 123456789012345678901234567890;", 1, 9);
        Check.dueFault("give ;", 1, 5);
        Check.dueFault("row r[00001];", 1, 10);
        Check.dueGood("row r[0001];", 1);
    }

    private static void numbersAreDigits() {
        Sentences.of("Terms I", "digits");
        for (int b = 33; b < 256; b++) {
            String text = "give " + (char) b + ";";
            if (isDigit(b)) {
                Check.dueGood(text, 1);
            } else if (isLetter(b)) {
                Check.dueFault(text, 3, 5);
            } else {
                Check.dueFault(text, 1, b == '(' ? 6 : 5);
            }
        }
    }

    private static void factsAndTests() {
        Sentences.of("Terms I", "TEST: BOTH { or BOTH }. BOTH: FACT { and FACT }. FACT: not FACT; [ TEST ] ; SUM SIGN SUM, SIGN < or > or = .");
        boolean[] bits = {false, true};
        for (boolean a : bits) {
            for (boolean b : bits) {
                for (boolean c : bits) {
                    dueTest("not a=1", !a, a, b, c);
                    dueTest("not not a=1", a, a, b, c);
                    dueTest("a=1 or b=1", a || b, a, b, c);
                    dueTest("a=1 and b=1", a && b, a, b, c);
                    dueTest("not a=1 and b=1", !a && b, a, b, c);
                    dueTest("not [a=1 and b=1]", !(a && b), a, b, c);
                    dueTest("not a=1 or b=1", !a || b, a, b, c);
                    dueTest("a=1 or b=1 and c=1", a || b && c, a, b, c);
                    dueTest("[a=1 or b=1] and c=1", (a || b) && c, a, b, c);
                    dueTest("a=1 and b=1 or c=1", a && b || c, a, b, c);
                    dueTest("a=1 and [b=1 or not c=1]", a && (b || !c), a, b, c);
                    dueTest("not [not a=1 or not b=1] and not not c=1", a && b && c, a, b, c);
                    dueTest("a<b", !a && b, a, b, c);
                    dueTest("a>b", a && !b, a, b, c);
                    dueTest("a=b", a == b, a, b, c);
                }
            }
        }
    }

    private static void dueTest(String test, boolean due, boolean a, boolean b, boolean c) {
        SlopeRunner x = Check.make("input a;input b;input c;if " + test + "{give 1;}else{give 2;}while " + test + "{give 3;give 1/0;}");
        x.put(0, a ? 1 : 0, 1);
        x.put(1, b ? 1 : 0, 1);
        x.put(2, c ? 1 : 0, 1);
        Check.due("run with " + test, x.run(), due ? 1 : 0);
        Check.dueResult(x, 0, due ? 1 : 2, 1);
        Check.due("results with " + test, x.ran(2), due ? 2 : 1);
    }

    private static void allFromTheLeftOn() {
        Sentences.of("Terms I", "All from the left on.");
        SlopeRunner x = Check.make("give 9-4-3;give 9-4+3;give 8/4/2;give 8/4*2;give 2*9/6;give 1+2*3-4/2;"
                + "if 1=1 or 1=1 and 1=2{give 1;}if not 1=2 and 1=1{give 2;}if not 1=1 or 1=1{give 3;}");
        x.run();
        int[] due = {2, 8, 1, 4, 3, 5, 1, 2, 3};
        for (int r = 0; r < due.length; r++) {
            Check.dueResult(x, r, due[r], 1);
        }
        Check.due("results", x.ran(2), due.length);
    }
}
