import java.nio.charset.StandardCharsets;
import java.util.Arrays;

/** What the tests share: feeding a text, looking at answers, and the end with its exit code. */
final class Check {
    private static int asked = 0;
    private static int wrong = 0;
    private static String about = "";

    private Check() {
    }

    /** What the answers from here on are about; it stands ahead of each that is not as due. */
    static void about(String words) {
        about = words + ": ";
    }

    static void due(String what, long got, long want) {
        asked++;
        if (got != want) {
            wrong++;
            System.out.println(about + what + " answered " + got + ", due is " + want);
        }
    }

    static void due(String what, boolean got, boolean want) {
        due(what, got ? 1 : 0, want ? 1 : 0);
    }

    /** A fraction's two halves; below 0 stands for NO. */
    static void dueFraction(String what, long above, long below, long wantAbove, long wantBelow) {
        boolean none = wantBelow == 0;
        due(what + " above", above, none ? SlopeRunner.NO : wantAbove);
        due(what + " below", below, none ? SlopeRunner.NO : wantBelow);
    }

    static void dueResult(SlopeRunner x, int r, long above, long below) {
        dueFraction("result " + r, x.result(r, true), x.result(r, false), above, below);
    }

    static void dueNear(SlopeRunner x, long above, long below) {
        dueFraction("near", x.near(true), x.near(false), above, below);
    }

    static void dueInput(SlopeRunner x, int i, long above, long below) {
        dueFraction("input " + i, x.input(i, true), x.input(i, false), above, below);
    }

    /** Forward and backward are due alike. */
    static void dueSlope(SlopeRunner x, int r, int i, long above, long below) {
        dueForward(x, r, i, above, below);
        dueBackward(x, r, i, above, below);
    }

    static void dueForward(SlopeRunner x, int r, int i, long above, long below) {
        dueFraction("forward " + r + " " + i, x.forward(r, i, true), x.forward(r, i, false), above, below);
    }

    static void dueBackward(SlopeRunner x, int r, int i, long above, long below) {
        dueFraction("backward " + r + " " + i, x.backward(r, i, true), x.backward(r, i, false), above, below);
    }

    static void dueTwice(SlopeRunner x, int r, int i, int j, long above, long below) {
        dueFraction("twice " + r + " " + i + " " + j, x.twice(r, i, j, true), x.twice(r, i, j, false), above, below);
    }

    static void dueDifference(SlopeRunner x, int r, int i, int h, int down, long above, long below) {
        dueFraction("difference " + r + " " + i + " " + h + "/" + down,
                x.difference(r, i, h, down, true), x.difference(r, i, h, down, false), above, below);
    }

    static void feed(SlopeRunner x, String text) {
        byte[] bytes = text.getBytes(StandardCharsets.ISO_8859_1);
        byte[] padded = Arrays.copyOf(bytes, (bytes.length + 19) / 20 * 20);
        for (int i = 0; i < padded.length; i += 20) {
            x.feed(four(padded, i), four(padded, i + 4), four(padded, i + 8), four(padded, i + 12), four(padded, i + 16));
        }
        x.end(bytes.length);
    }

    private static int four(byte[] bytes, int at) {
        int n = 0;
        for (int i = 0; i < 4; i++) {
            n = n << 8 | bytes[at + i] & 255;
        }
        return n;
    }

    /** Feeds a text that must be a program, and takes it. */
    static SlopeRunner take(SlopeRunner x, String text) {
        feed(x, text);
        if (x.program() < 0) {
            due("program of \"" + text + "\": fault " + x.fault(0) + " at " + x.fault(1), -1, 0);
        }
        return x;
    }

    static SlopeRunner make(String text) {
        return take(new SlopeRunner(), text);
    }

    static void dueFault(String text, int kind, int place) {
        SlopeRunner x = new SlopeRunner();
        feed(x, text);
        due("program of \"" + text + "\"", x.program(), SlopeRunner.NONE);
        due("fault of \"" + text + "\"", x.fault(0), kind);
        due("fault's place of \"" + text + "\"", x.fault(1), place);
    }

    static void dueGood(String text, int statements) {
        SlopeRunner x = new SlopeRunner();
        feed(x, text);
        due("program of \"" + text + "\"", x.program(), statements);
        due("fault of \"" + text + "\"", x.fault(0), 0);
        due("fault's place of \"" + text + "\"", x.fault(1), SlopeRunner.NONE);
    }

    static String times(int n, String text) {
        StringBuilder all = new StringBuilder();
        for (int i = 0; i < n; i++) {
            all.append(text);
        }
        return all.toString();
    }

    static void finish() {
        System.out.println(asked + " answers, " + wrong + " not as due");
        if (wrong != 0 || asked == 0) {
            System.exit(1);
        }
    }
}
