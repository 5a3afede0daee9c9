import java.util.ArrayList;
import java.util.List;

/** Terms I: the five faults, each at its place. */
final class FaultEdges {
    private static final String SAMPLE = "input a ; row r [ 3 ] ; var v ; set r [ 1 ] = ( a + 2 ) * abs ( a ) ;"
            + " give min ( a , v ) / max ( 1 , 2 ) - r [ 0 ] ;"
            + " if not [ a < 1 or a > 2 and a = 3 ] { give 1 ; } else { give 2 ; } while a < 1 { set a = 1 ; }";

    private FaultEdges() {
    }

    static void all() {
        theFirstAlongTheText();
        noProgramGoesOn();
        wordsAndNumbersWhole();
        fifthDigitSeventhLetter();
        ownWordWhereANameMustBe();
        rowWithoutBracket();
        bracketBehindNoRow();
        withinBraces();
        endsTooSoon();
        numberThatCantBe();
        nameThereAlready();
        nameThatIsNone();
        ninthOpen();
        openAtOnce();
        notUntilItsFactEnds();
        ninthInputFifthRowThirteenthVar();
        eightyFirstStatement();
        whateverStandsThere();
        braceThatClosesOrTheEnd();
    }

    private static void theFirstAlongTheText() {
        Sentences.of("Terms I", "FAULTS, the first along the text");
        Check.dueFault("give cow; give 12345; row r[0];", 3, 5);
        Check.dueFault("give 12345; give cow; row r[0];", 1, 9);
        Check.dueFault("row r[0]; give cow; give 12345;", 2, 6);
        Check.dueFault("give (((((((((cow; row r[0];", 4, 13);
        Check.dueFault("give ((((((((cow; row r[0];", 3, 13);
        Check.dueFault(Check.times(81, "give 1;") + "?", 5, 560);
        Check.dueFault("give 1;" + Check.times(79, "give 1;") + "?", 5, 560);
        Check.dueFault("give x" + Check.times(80, ";give 1"), 3, 5);
        Check.dueFault("row a[17", 2, 6);
        Check.dueFault("var a; var a", 3, 11);
    }

    private static void noProgramGoesOn() {
        Sentences.of("Terms I", "1 the first byte with which no PROGRAM goes on");
        String[] tokens = SAMPLE.split(" ");
        StringBuilder ahead = new StringBuilder();
        for (String token : tokens) {
            Check.dueFault(ahead + "?", 1, ahead.length());
            Check.dueFault(ahead + "? " + token, 1, ahead.length());
            ahead.append(token).append(' ');
        }
        Check.dueFault(ahead + "?", 1, ahead.length());
        Check.dueGood(ahead.toString(), 10);
    }

    private static void wordsAndNumbersWhole() {
        Sentences.of("Terms I", "words and numbers whole, at their first byte");
        Check.dueFault("giv", 1, 0);
        Check.dueFault("gives 1;", 1, 0);
        Check.dueFault("  abcdefghij", 1, 2);
        Check.dueFault(" 123456", 1, 1);
        Check.dueFault("give 1 123456;", 1, 7);
        Check.dueFault("give 1 abcdefghij;", 1, 7);
        Check.dueFault("give (1 abcdefghij);", 1, 8);
        Check.dueFault("if 1=1 els{}", 1, 7);
        Check.dueFault("if 1=1{}elsewhere{}", 1, 8);
        Check.dueFault("if 1=1 andy=1{}", 1, 7);
        Check.dueFault("input 123456;", 1, 6);
        Check.dueFault("row r[abcdefghij];", 1, 6);
        Check.dueFault("var v;set v 123456;", 1, 12);
    }

    private static void fifthDigitSeventhLetter() {
        Sentences.of("Terms I", "where a number, a NAME is asked, a 5th digit, a 7th letter of what is no OWN WORD at itself");
        Check.dueFault("row r[12345];", 1, 10);
        Check.dueFault("row r[123456789];", 1, 10);
        String[] heads = {"give ", "give (", "give 1+", "give 1*", "if ", "if [", "if not ", "if 1<", "if 1=1 or ", "if 1=1 and ",
            "while ", "give abs(", "give min(",
            "give max(1,", "row r[1];give r[", "row r[1];set r[", "var v;set v="};
        for (String head : heads) {
            Check.dueFault(head + "12345", 1, head.length() + 4);
            Check.dueFault(head + "123456", 1, head.length() + 4);
            Check.dueFault(head + "1234", 1, head.length() + 4);
            Check.dueFault(head + "abcdefg", 1, head.length() + 6);
            Check.dueFault(head + "abcdefgh", 1, head.length() + 6);
            Check.dueFault(head + "abcdef", 3, head.length());
        }
        Check.dueFault("set abcdefg=1;", 1, 10);
        Check.dueFault("set abcdef=1;", 3, 4);
        Check.dueFault("give whilewhile;", 1, 11);
    }

    private static void ownWordWhereANameMustBe() {
        Sentences.of("Terms I", "an OWN WORD where a NAME must be");
        for (String word : GrammarEdges.OWN) {
            boolean asked = word.equals("abs") || word.equals("min") || word.equals("max");
            Check.dueFault("var " + word + ";", 1, 4);
            Check.dueFault("set " + word + "=1;", 1, 4);
            Check.dueFault("give " + word + ";", 1, asked ? 8 : 5);
            Check.dueFault("give 1+" + word + ";", 1, asked ? 10 : 7);
            boolean not = word.equals("not");
            Check.dueFault("if " + word + "=1{}", 1, asked || not ? 6 : 3);
        }
    }

    private static void rowWithoutBracket() {
        Sentences.of("Terms I", "a ROW without [");
        Check.dueFault("row r;", 1, 5);
        Check.dueFault("row r 3;", 1, 6);
        Check.dueFault("row r[2];give r;", 1, 15);
        Check.dueFault("row r[2];give r+1;", 1, 15);
        Check.dueFault("row r[2];set r=1;", 1, 14);
        Check.dueFault("row r[2];if r<1{}", 1, 13);
        Check.dueFault("row r[2];give r(1);", 1, 15);
    }

    private static void bracketBehindNoRow() {
        Sentences.of("Terms I", "a [ behind no ROW at itself");
        String[] heads = {"input a;", "var a;"};
        for (String head : heads) {
            int n = head.length();
            Check.dueFault(head + "give a[0];", 1, n + 6);
            Check.dueFault(head + "set a[0]=1;", 1, n + 5);
            Check.dueFault(head + "if a[0]=1{}", 1, n + 4);
            Check.dueFault(head + "give abs(a[0]);", 1, n + 10);
            // Though it would be the ninth that is open.
            Check.dueFault(head + "give ((((((((a[0", 1, n + 14);
        }
        Check.dueFault("give 1[0];", 1, 6);
    }

    private static void withinBraces() {
        Sentences.of("Terms I", "input, row, var within braces at its first byte");
        Check.dueFault("if 1=1{ input a;}", 1, 8);
        Check.dueFault("if 1=1{ row a[1];}", 1, 8);
        Check.dueFault("while 1=2{ var", 1, 11);
        Check.dueFault("if 1=1{}else{give 1;var abcdefghi;}", 1, 20);
        Check.dueFault("input a;if 1=1{ input a;}", 1, 16);
    }

    private static void endsTooSoon() {
        Sentences.of("Terms I", "at the text's length, if it ends too soon");
        String[] tokens = SAMPLE.split(" ");
        StringBuilder text = new StringBuilder();
        int open = 0;
        int statements = 0;
        for (int i = 0; i < tokens.length; i++) {
            text.append(i == 0 ? "" : " ").append(tokens[i]);
            open += tokens[i].equals("{") ? 1 : tokens[i].equals("}") ? -1 : 0;
            statements += List.of("input", "row", "var", "set", "give", "if", "while").contains(tokens[i]) ? 1 : 0;
            boolean whole = open == 0 && (tokens[i].equals(";") || tokens[i].equals("}"));
            List<String> tails = new ArrayList<>(List.of("", " ", "\n  "));
            for (String tail : tails) {
                if (whole) {
                    Check.dueGood(text + tail, statements);
                } else {
                    Check.dueFault(text + tail, 1, text.length() + tail.length());
                }
            }
        }
    }

    private static void numberThatCantBe() {
        Sentences.of("Terms I", "2 a number (of 1 to 4 digits) that can't be, at it");
        String[] wrong = {"0", "00", "0000", "17", "017", "0017", "100", "9999"};
        for (String n : wrong) {
            Check.dueFault("row r[ " + n + "];", 2, 7);
            Check.dueFault("row r[ " + n, 2, 7);
        }
        String[] right = {"1", "01", "0001", "16", "016", "0016", "9", "10"};
        for (String n : right) {
            Check.dueGood("row r[ " + n + "];", 1);
        }
        Check.dueFault("row r[ 00000];", 1, 11);
        Check.dueFault("row r[ 99999];", 1, 11);
        Check.dueGood("give 0; give 9999;", 2);
    }

    private static void nameThereAlready() {
        Sentences.of("Terms I", "3 a NAME to be given that is there already");
        Check.dueFault("input a; input a;", 3, 15);
        Check.dueFault("row a[1]; row a", 3, 14);
        Check.dueFault("var abcdef; input abcdef", 3, 18);
        // The latest of all names that can be, and one that differs in its last letter.
        String most = "input a;input b;input c;input d;input e;input f;input g;input h;row A[1];row B[1];row C[1];"
                + "var k;var l;var m;var n;var o;var p;var q;var r;var s;var t;var u;var v;";
        Check.dueFault(most + "row v[1];", 3, most.length() + 4);
        Check.dueFault(most + "row h[1];", 3, most.length() + 4);
        Check.dueFault(most + "row C[1];", 3, most.length() + 4);
        Check.dueGood(most + "row vv[1];", 24);
    }

    private static void nameThatIsNone() {
        Sentences.of("Terms I", "one that is none where one is asked, at it");
        Check.dueFault("give a;", 3, 5);
        Check.dueFault("set a=1;", 3, 4);
        Check.dueFault("input a;give A;", 3, 13);
        Check.dueFault("input ab;give a;", 3, 14);
        Check.dueFault("input a;give ab;", 3, 13);
        Check.dueFault("row r[2];give r[a];", 3, 16);
        Check.dueFault("give a;input a;", 3, 5);
        Check.dueFault("give a[0];row a[1];", 3, 5);
        Check.dueFault("if [ not a=1 ] {}", 3, 9);
        // With as many names as there can be.
        String most = "input a;input b;input c;input d;input e;input f;input g;input h;row A[1];row B[1];row C[1];row D[1];"
                + "var k;var l;var m;var n;var o;var p;var q;var r;var s;var t;var u;var v;";
        Check.dueFault(most + "give w;", 3, most.length() + 5);
        Check.dueGood(most + "give v;", 25);
        // Names of earlier programs are none, good or not.
        String[] earlier = {"input a;give a;", "input a;?"};
        for (String text : earlier) {
            SlopeRunner x = new SlopeRunner();
            for (int i = 0; i < 3; i++) {
                Check.feed(x, text);
                x.program();
            }
            Check.feed(x, "give a;");
            Check.due("program", x.program(), SlopeRunner.NONE);
            Check.due("fault", x.fault(0), 3);
            Check.due("place", x.fault(1), 5);
        }
    }

    private static void ninthOpen() {
        Sentences.of("Terms I", "4 the 9th ( [ { not that is open at once (not until its FACT ends), at it");
        String rows = "row r[9];";
        String[] openers = {"give ", "(", "1", ")", "if ", "[", "1=1", "]", "if ", "not ", "1=1", "", "give ", "abs(", "1", ")",
            "give ", "min(1,", "1", ")", "give ", "max(", "1", ",1)", "give ", "r[", "1", "]"};
        for (int i = 0; i < openers.length; i += 4) {
            String head = rows + openers[i];
            String end = openers[i].equals("if ") ? "{}" : ";";
            // A brace behind the test opens anew, as all of that is closed by then.
            Check.dueGood(head + Check.times(8, openers[i + 1]) + openers[i + 2] + Check.times(8, openers[i + 3]) + end, 2);
            String opener = openers[i + 1];
            int within = opener.indexOf('(') > 0 ? 3 : opener.indexOf('[') > 0 ? 1 : 0;
            Check.dueFault(head + Check.times(9, opener) + openers[i + 2], 4, head.length() + 8 * opener.length() + within);
        }
        Check.dueGood(Check.times(8, "if 1=1{") + Check.times(8, "}"), 8);
        Check.dueFault(Check.times(9, "if 1=1{") + Check.times(9, "}"), 4, 62);
        Check.dueFault(Check.times(8, "if 1=1{") + "if (", 4, 59);
        Check.dueFault(Check.times(8, "if 1=1{") + "if [", 4, 59);
        Check.dueFault(Check.times(8, "if 1=1{") + "if not 1=1{", 4, 59);
        Check.dueFault(Check.times(8, "while 1=1{") + "while 1=1{", 4, 89);
        Check.dueFault(Check.times(7, "if 1=1{") + "if not not 1=1{", 4, 56);
        Check.dueFault(rows + Check.times(8, "if 1=1{") + "set r[", 4, 70);
        Check.dueFault(rows + "set " + Check.times(9, "r["), 4, 30);
        Check.dueFault("if 1=1 or [[[[[[[[(", 4, 18);
        Check.dueFault("if 1=1 and [[[[[[[[(", 4, 19);
    }

    private static void openAtOnce() {
        Sentences.of("Terms I", "that is open at once");
        String eight = Check.times(8, "(") + "1" + Check.times(8, ")");
        Check.dueGood("give " + eight + "+" + eight + "*" + eight + ";give " + eight + ";", 2);
        Check.dueGood("if " + eight + "=" + eight + "{}", 1);
        Check.dueGood(Check.times(7, "if 1=1{") + "if 1=1{}else{}if 1=1{}" + Check.times(7, "}else{}"), 9);
        Check.dueGood("row r[2];set r[((((((1))))))]=" + eight + ";", 2);
        Check.dueGood("row r[2];give r[(((((((1)))))))]+r[(((((((1)))))))];", 2);
        Check.dueFault("row r[2];give r[((((((((1", 4, 23);
        Check.dueFault("give " + eight + "+(" + eight, 4, 31);
    }

    private static void notUntilItsFactEnds() {
        Sentences.of("Terms I", "not until its FACT ends");
        String eight = Check.times(8, "not ");
        Check.dueGood("if " + eight + "1=1 and " + eight + "1=1 or " + eight + "1=1{}", 1);
        Check.dueGood("if " + Check.times(7, "not ") + "(1)=(1){}", 1);
        Check.dueFault("if " + eight + "(1)=1{}", 4, 35);
        Check.dueFault("if " + eight + "1=(1){}", 4, 37);
        Check.dueFault("if " + eight + "[1=1]{}", 4, 35);
        Check.dueGood("if not [not [not [not [1=1 and 1=1]]]]{}", 1);
        Check.dueFault("if not [not [not [not [1=1 and (1", 4, 31);
        Check.dueGood("if not [not [not [not 1=1 and (1)=1]]] and not 1=1{}", 1);
    }

    private static void ninthInputFifthRowThirteenthVar() {
        Sentences.of("Terms I", "5 a 9th input, 5th row, 13th var, an 81st STATEMENT, at its first byte");
        String inputs = "input a;input b;input c;input d;input e;input f;input g;input h;";
        String rows = "row a[1];row b[1];row c[1];row d[1];";
        String vars = "var a;var b;var c;var d;var e;var f;var g;var h;var i;var j;var k;var l;";
        String[] tails = {"", " i;", " a;", " set;", " 1", "?"};
        for (String tail : tails) {
            Check.dueFault(inputs + " input" + tail, 5, inputs.length() + 1);
            Check.dueFault(rows + "\nrow" + tail, 5, rows.length() + 1);
            Check.dueFault(vars + "  var" + tail, 5, vars.length() + 2);
        }
        Check.dueGood(inputs + "row i[1];var j;", 10);
        Check.dueGood(rows + "input i;var j;", 6);
        Check.dueGood(vars + "input m;row n[1];", 14);
    }

    private static void eightyFirstStatement() {
        Sentences.of("Terms I", "an 81st STATEMENT, at its first byte");
        String eighty = Check.times(80, "give 1;");
        String[] statements = {"input a;", "row a[1];", "var a;", "set a=1;", "give 1;", "if 1=1{}", "while 1=2{}"};
        for (String each : statements) {
            Check.dueFault(eighty + " " + each, 5, 561);
        }
        Check.dueFault(Check.times(79, "give 1;") + "if 1=1{\ngive 1;}", 5, 561);
        Check.dueFault(Check.times(79, "give 1;") + "if 1=1{}else{give 1;}", 5, 566);
    }

    private static void whateverStandsThere() {
        Sentences.of("Terms I", "whatever stands there for the last");
        String eighty = Check.times(80, "give 1;");
        String within = Check.times(79, "give 1;") + "if 1=1{";
        String[] any = {"?", "12345", "abcdefgh", "(", "[", "{", ";", "not", "else", "min", "a", "\t", "" + (char) 255};
        for (String each : any) {
            Check.dueFault(eighty + each, 5, 560);
            Check.dueFault(eighty + "\n" + each, 5, 561);
            Check.dueFault(within + each, 5, 560);
        }
        Check.dueFault(within + "input a;", 5, 560);
        Check.dueFault(within + "}else{var a;", 5, 566);
        // One less, and it is what it is.
        String less = Check.times(79, "give 1;");
        Check.dueFault(less + "?", 1, 553);
        Check.dueFault(less + "give 12345", 1, 562);
        Check.dueFault(less + "if 1=1?", 1, 559);
    }

    private static void braceThatClosesOrTheEnd() {
        Sentences.of("Terms I", "but a } that closes, or the text's end");
        String eighty = Check.times(80, "give 1;");
        Check.dueGood(eighty, 80);
        Check.dueGood(eighty + " \n", 80);
        Check.dueFault(eighty + "}", 5, 560);
        String within = Check.times(78, "give 1;") + "if 1=1{if 1=1{";
        Check.dueGood(within + "}}", 80);
        Check.dueGood(within + "}else{}}else{}", 80);
        Check.dueFault(within + "}}}", 5, 562);
        Check.dueFault(within + "}", 1, 561);
        Check.dueFault(within, 1, 560);
        Check.dueFault(within + "  ", 1, 562);
    }
}
