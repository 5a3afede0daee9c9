import java.math.BigInteger;
import java.util.ArrayList;
import java.util.HashMap;
import java.util.List;
import java.util.Map;
import java.util.Set;

/**
 * A second reading of the document, written apart from the class: bytes instead of tokens, trees
 * instead of code, big integers, exceptions and memory spent freely. Tests compare the two.
 */
final class Oracle {
    static final class Stuck extends RuntimeException {
        private static final long serialVersionUID = 1L;
    }

    static final class TooLong extends RuntimeException {
        private static final long serialVersionUID = 1L;
    }

    static final class Fault extends RuntimeException {
        private static final long serialVersionUID = 1L;
        final int kind;
        final int place;

        Fault(int kind, int place) {
            this.kind = kind;
            this.place = place;
        }
    }

    /** A fraction in lowest terms within the bounds, or Stuck. */
    static final class Frac {
        private static final BigInteger MOST = BigInteger.TEN.pow(9);
        static final Frac ZERO = of(0, 1);
        static final Frac ONE = of(1, 1);
        final BigInteger up;
        final BigInteger down;

        private Frac(BigInteger a, BigInteger b) {
            if (b.signum() == 0) {
                throw new Stuck();
            }
            BigInteger g = a.gcd(b).multiply(BigInteger.valueOf(b.signum()));
            up = a.divide(g);
            down = b.divide(g);
            if (up.abs().compareTo(MOST) > 0 || down.compareTo(MOST) > 0) {
                throw new Stuck();
            }
        }

        static Frac of(long a, long b) {
            return new Frac(BigInteger.valueOf(a), BigInteger.valueOf(b));
        }

        Frac plus(Frac o) {
            return new Frac(up.multiply(o.down).add(o.up.multiply(down)), down.multiply(o.down));
        }

        Frac minus(Frac o) {
            return new Frac(up.multiply(o.down).subtract(o.up.multiply(down)), down.multiply(o.down));
        }

        Frac times(Frac o) {
            return new Frac(up.multiply(o.up), down.multiply(o.down));
        }

        Frac over(Frac o) {
            return new Frac(up.multiply(o.down), down.multiply(o.up));
        }

        int compare(Frac o) {
            return up.multiply(o.down).compareTo(o.up.multiply(down));
        }

        boolean isLike(Frac o) {
            return compare(o) == 0;
        }

        Frac withoutSign() {
            return up.signum() < 0 ? ZERO.minus(this) : this;
        }
    }

    interface Sum {
        int eval(Run run);
    }

    interface Test {
        boolean eval(Run run);
    }

    interface Statement {
        void exec(Run run);
    }

    /** What is on the tape: a and b are those on which it hangs. */
    static final class Entry {
        final String op;
        final int a;
        final int b;
        final Frac value;

        Entry(String op, int a, int b, Frac value) {
            this.op = op;
            this.a = a;
            this.b = b;
            this.value = value;
        }
    }

    static final class Parsed {
        final List<String> inputs = new ArrayList<>();
        final Map<String, Integer> rows = new HashMap<>();
        final List<String> vars = new ArrayList<>();
        final List<Integer> numbers = new ArrayList<>();
        final List<Statement> body = new ArrayList<>();
        int statements;
    }

    static final class Run {
        final Parsed program;
        final List<Entry> tape = new ArrayList<>();
        final Map<String, Integer> single = new HashMap<>();
        final Map<String, int[]> rows = new HashMap<>();
        final List<Integer> results = new ArrayList<>();
        int steps;
        int edges;
        Frac near;
        int state;

        Run(Parsed program, List<Frac> inputs) {
            this.program = program;
            for (int i = 0; i < inputs.size(); i++) {
                single.put(program.inputs.get(i), i);
                tape.add(new Entry("", -1, -1, inputs.get(i)));
            }
            int zero = tape.size();
            tape.add(new Entry("", -1, -1, Frac.ZERO));
            for (int n : program.numbers) {
                tape.add(new Entry("", -1, -1, Frac.of(n, 1)));
            }
            for (String v : program.vars) {
                single.put(v, zero);
            }
            for (Map.Entry<String, Integer> row : program.rows.entrySet()) {
                int[] places = new int[row.getValue()];
                java.util.Arrays.fill(places, zero);
                rows.put(row.getKey(), places);
            }
            try {
                for (Statement s : program.body) {
                    s.exec(this);
                }
            } catch (Stuck e) {
                state = 1;
            } catch (TooLong e) {
                state = 2;
            }
        }

        Frac value(int i) {
            return tape.get(i).value;
        }

        void count() {
            if (steps == 1000) {
                throw new TooLong();
            }
        }

        void meet(Frac x, Frac y) {
            if (x.isLike(y)) {
                edges++;
            }
            try {
                Frac gap = x.minus(y).withoutSign();
                near = near == null || gap.compare(near) < 0 ? gap : near;
            } catch (Stuck e) {
                // left out
            }
        }

        int step(String op, int a, int b) {
            count();
            Frac x = value(a);
            Frac y = value(b);
            Entry made;
            switch (op) {
                case "+":
                    made = new Entry(op, a, b, x.plus(y));
                    break;
                case "-":
                    made = new Entry(op, a, b, x.minus(y));
                    break;
                case "*":
                    made = new Entry(op, a, b, x.times(y));
                    break;
                case "/":
                    made = new Entry(op, a, b, x.over(y));
                    break;
                case "abs":
                    meet(x, Frac.ZERO);
                    made = new Entry(op, a, -1, x.withoutSign());
                    break;
                case "min":
                    meet(x, y);
                    made = new Entry("pick", x.compare(y) <= 0 ? a : b, -1, x.compare(y) <= 0 ? x : y);
                    break;
                default:
                    meet(x, y);
                    made = new Entry("pick", x.compare(y) >= 0 ? a : b, -1, x.compare(y) >= 0 ? x : y);
                    break;
            }
            steps++;
            tape.add(made);
            return tape.size() - 1;
        }

        boolean sign(char sign, int a, int b) {
            count();
            meet(value(a), value(b));
            steps++;
            int order = value(a).compare(value(b));
            return sign == '<' ? order < 0 : sign == '>' ? order > 0 : order == 0;
        }

        int placeOf(String row, int index) {
            Frac n = value(index);
            if (!n.down.equals(BigInteger.ONE) || n.up.signum() < 0
                    || n.up.compareTo(BigInteger.valueOf(rows.get(row).length)) >= 0) {
                throw new Stuck();
            }
            return n.up.intValue();
        }

        Frac forward(int at, int input, Map<Integer, Frac> known) {
            Frac have = known.get(at);
            if (have == null) {
                have = forwardAnew(at, input, known);
                known.put(at, have);
            }
            return have;
        }

        private Frac forwardAnew(int at, int input, Map<Integer, Frac> known) {
            Entry e = tape.get(at);
            if (e.op.isEmpty()) {
                return at == input ? Frac.ONE : Frac.ZERO;
            }
            Frac p = forward(e.a, input, known);
            Frac q = e.b < 0 ? null : forward(e.b, input, known);
            switch (e.op) {
                case "+":
                    return p.plus(q);
                case "-":
                    return p.minus(q);
                case "*":
                    return p.times(value(e.b)).plus(value(e.a).times(q));
                case "/":
                    return p.minus(e.value.times(q)).over(value(e.b));
                case "abs":
                    return value(e.a).up.signum() < 0 ? Frac.ZERO.minus(p) : p;
                default:
                    return p;
            }
        }

        Frac twice(int at, int i, int j) {
            Map<Integer, Frac> one = new HashMap<>();
            Map<Integer, Frac> other = new HashMap<>();
            forward(at, i, one);
            forward(at, j, other);
            return twice(at, one, other, new HashMap<>());
        }

        private Frac twice(int at, Map<Integer, Frac> one, Map<Integer, Frac> other, Map<Integer, Frac> known) {
            Entry e = tape.get(at);
            if (e.op.isEmpty()) {
                return Frac.ZERO;
            }
            if (known.containsKey(at)) {
                return known.get(at);
            }
            Frac t = twice(e.a, one, other, known);
            Frac made;
            if (e.op.equals("abs") || e.op.equals("pick")) {
                made = e.op.equals("abs") && value(e.a).up.signum() < 0 ? Frac.ZERO.minus(t) : t;
            } else {
                Frac w = twice(e.b, one, other, known);
                Frac p = one.get(e.a);
                Frac q = one.get(e.b);
                Frac r = other.get(e.a);
                Frac u = other.get(e.b);
                Frac a = value(e.a);
                Frac b = value(e.b);
                switch (e.op) {
                    case "+":
                        made = t.plus(w);
                        break;
                    case "-":
                        made = t.minus(w);
                        break;
                    case "*":
                        made = t.times(b).plus(p.times(u)).plus(r.times(q).plus(a.times(w)));
                        break;
                    default:
                        made = t.minus(one.get(at).times(u)).minus(other.get(at).times(q)).minus(e.value.times(w)).over(b);
                        break;
                }
            }
            known.put(at, made);
            return made;
        }

        Frac backward(int at, int input) {
            Frac[] share = new Frac[tape.size()];
            java.util.Arrays.fill(share, Frac.ZERO);
            share[at] = Frac.ONE;
            for (int k = tape.size() - 1; k >= 0; k--) {
                Entry e = tape.get(k);
                Frac s = share[k];
                if (e.op.isEmpty() || s.up.signum() == 0) {
                    continue;
                }
                switch (e.op) {
                    case "+":
                        share[e.a] = share[e.a].plus(s);
                        share[e.b] = share[e.b].plus(s);
                        break;
                    case "-":
                        share[e.a] = share[e.a].plus(s);
                        share[e.b] = share[e.b].plus(Frac.ZERO.minus(s));
                        break;
                    case "*":
                        share[e.a] = share[e.a].plus(s.times(value(e.b)));
                        share[e.b] = share[e.b].plus(value(e.a).times(s));
                        break;
                    case "/":
                        share[e.a] = share[e.a].plus(s.over(value(e.b)));
                        share[e.b] = share[e.b].plus(Frac.ZERO.minus(e.value.times(s.over(value(e.b)))));
                        break;
                    default:
                        boolean turn = e.op.equals("abs") && value(e.a).up.signum() < 0;
                        share[e.a] = share[e.a].plus(turn ? Frac.ZERO.minus(s) : s);
                        break;
                }
            }
            return share[input];
        }

        BigInteger ways(int at, int input) {
            BigInteger[] count = new BigInteger[at + 1];
            for (int k = 0; k <= at; k++) {
                Entry e = tape.get(k);
                count[k] = e.op.isEmpty() ? (k == input ? BigInteger.ONE : BigInteger.ZERO)
                        : e.b < 0 ? count[e.a] : count[e.a].add(count[e.b]);
            }
            return count[at].min(BigInteger.TEN.pow(9));
        }

        int moves(int at) {
            int bits = 0;
            for (int i = 0; i < program.inputs.size(); i++) {
                if (ways(at, i).signum() > 0) {
                    bits |= 1 << i;
                }
            }
            return bits;
        }

        /** All ways to group, as numbers written with one digit an input, from the least on. */
        int[] groups() {
            int n = program.inputs.size();
            for (int most = 1; most <= n; most++) {
                int all = (int) Math.pow(most, n);
                for (int code = 0; code < all; code++) {
                    int[] group = new int[n];
                    int rest = code;
                    for (int i = n - 1; i >= 0; i--) {
                        group[i] = rest % most;
                        rest /= most;
                    }
                    if (isGrouping(group)) {
                        return group;
                    }
                }
            }
            return new int[0];
        }

        private boolean isGrouping(int[] group) {
            for (int r : results) {
                int bits = moves(r);
                for (int i = 0; i < group.length; i++) {
                    for (int j = 0; j < i; j++) {
                        if ((bits >> i & 1) == 1 && (bits >> j & 1) == 1 && group[i] == group[j]) {
                            return false;
                        }
                    }
                }
            }
            return true;
        }
    }

    private static final Set<String> OWN = Set.of("input", "row", "var", "set", "give", "if", "else",
            "while", "and", "or", "not", "abs", "min", "max");

    private final String text;
    private final Parsed made = new Parsed();
    private int p;
    private int open;

    private Oracle(String text) {
        this.text = text;
    }

    static Parsed parse(String text) {
        Oracle o = new Oracle(text);
        o.body(o.made.body, false);
        return o.made;
    }

    private static boolean letter(int c) {
        return c >= 'a' && c <= 'z' || c >= 'A' && c <= 'Z';
    }

    private static boolean digit(int c) {
        return c >= '0' && c <= '9';
    }

    private int byteAt(int place) {
        return place < text.length() && place >= 0 ? text.charAt(place) : -1;
    }

    private int look() {
        while (byteAt(p) == 10 || byteAt(p) == 32) {
            p++;
        }
        int c = byteAt(p);
        boolean glued = letter(byteAt(p - 1)) || digit(byteAt(p - 1));
        if (glued && (letter(c) || digit(c))) {
            throw new Fault(1, p);
        }
        return c;
    }

    private String word() {
        look();
        int to = p;
        while (letter(byteAt(to))) {
            to++;
        }
        return text.substring(p, to);
    }

    private boolean ahead(String word) {
        return word().equals(word);
    }

    private void eat(char c) {
        if (look() != c) {
            throw new Fault(1, p);
        }
        p++;
    }

    private void eatOpening(char c) {
        look();
        if (byteAt(p) == c && open == 8) {
            throw new Fault(4, p);
        }
        eat(c);
        open++;
    }

    private void eatClosing(char c) {
        eat(c);
        open--;
    }

    private String name() {
        String w = word();
        if (w.isEmpty() || OWN.contains(w)) {
            throw new Fault(1, p);
        }
        if (w.length() > 6) {
            throw new Fault(1, p + 6);
        }
        return w;
    }

    private boolean known(String name) {
        return made.inputs.contains(name) || made.vars.contains(name) || made.rows.containsKey(name);
    }

    private String newName() {
        String w = name();
        if (known(w)) {
            throw new Fault(3, p);
        }
        p += w.length();
        return w;
    }

    private String oldName() {
        String w = name();
        if (!known(w)) {
            throw new Fault(3, p);
        }
        p += w.length();
        return w;
    }

    private int number() {
        if (!digit(look())) {
            throw new Fault(1, p);
        }
        int to = p;
        while (digit(byteAt(to))) {
            to++;
        }
        if (to - p > 4) {
            throw new Fault(1, p + 4);
        }
        return Integer.parseInt(text.substring(p, to));
    }

    private void passDigits() {
        while (digit(byteAt(p))) {
            p++;
        }
    }

    private void body(List<Statement> into, boolean braces) {
        while (true) {
            int c = look();
            if (c == -1 && !braces || c == '}' && braces) {
                return;
            }
            if (c == -1) {
                throw new Fault(1, p);
            }
            if (made.statements == 80) {
                throw new Fault(5, p);
            }
            Statement s = statement(braces);
            if (s != null) {
                into.add(s);
            }
        }
    }

    private Statement statement(boolean braces) {
        String w = word();
        boolean declares = w.equals("input") || w.equals("row") || w.equals("var");
        if (declares && braces || !declares && !Set.of("set", "give", "if", "while").contains(w)) {
            throw new Fault(1, p);
        }
        if (w.equals("input") && made.inputs.size() == 8 || w.equals("row") && made.rows.size() == 4
                || w.equals("var") && made.vars.size() == 12) {
            throw new Fault(5, p);
        }
        p += w.length();
        made.statements++;
        switch (w) {
            case "input":
                made.inputs.add(newName());
                eat(';');
                return null;
            case "var":
                made.vars.add(newName());
                eat(';');
                return null;
            case "row":
                row();
                return null;
            case "set":
                return set();
            case "give":
                Sum sum = sum();
                eat(';');
                return r -> {
                    int at = sum.eval(r);
                    if (r.results.size() == 12) {
                        throw new Stuck();
                    }
                    r.results.add(at);
                };
            case "if":
                return choice();
            default:
                return loop();
        }
    }

    private void row() {
        String name = newName();
        eat('[');
        int n = number();
        if (n < 1 || n > 16) {
            throw new Fault(2, p);
        }
        passDigits();
        eat(']');
        eat(';');
        made.rows.put(name, n);
    }

    private Statement set() {
        String name = oldName();
        boolean isRow = made.rows.containsKey(name);
        Sum index = isRow ? index() : null;
        eat('=');
        Sum sum = sum();
        eat(';');
        return r -> {
            int at = sum.eval(r);
            if (isRow) {
                r.rows.get(name)[r.placeOf(name, index.eval(r))] = at;
            } else {
                r.single.put(name, at);
            }
        };
    }

    private List<Statement> braces() {
        List<Statement> all = new ArrayList<>();
        eatOpening('{');
        body(all, true);
        eatClosing('}');
        return all;
    }

    private Statement choice() {
        Test test = test();
        List<Statement> yes = braces();
        List<Statement> no = new ArrayList<>();
        if (ahead("else")) {
            p += 4;
            no.addAll(braces());
        }
        return r -> {
            for (Statement s : test.eval(r) ? yes : no) {
                s.exec(r);
            }
        };
    }

    private Statement loop() {
        Test test = test();
        List<Statement> all = braces();
        return r -> {
            while (test.eval(r)) {
                for (Statement s : all) {
                    s.exec(r);
                }
            }
        };
    }

    private Test test() {
        Test left = both();
        while (ahead("or")) {
            p += 2;
            Test a = left;
            Test b = both();
            left = r -> a.eval(r) | b.eval(r);
        }
        return left;
    }

    private Test both() {
        Test left = fact();
        while (ahead("and")) {
            p += 3;
            Test a = left;
            Test b = fact();
            left = r -> a.eval(r) & b.eval(r);
        }
        return left;
    }

    private Test fact() {
        if (ahead("not")) {
            if (open == 8) {
                throw new Fault(4, p);
            }
            open++;
            p += 3;
            Test of = fact();
            open--;
            return r -> !of.eval(r);
        }
        if (look() == '[') {
            eatOpening('[');
            Test of = test();
            eatClosing(']');
            return of;
        }
        Sum a = sum();
        int sign = look();
        if (sign != '<' && sign != '>' && sign != '=') {
            throw new Fault(1, p);
        }
        p++;
        Sum b = sum();
        return r -> r.sign((char) sign, a.eval(r), b.eval(r));
    }

    private Sum sum() {
        Sum left = product();
        while (look() == '+' || look() == '-') {
            left = joined(left, this::product);
        }
        return left;
    }

    private Sum product() {
        Sum left = part();
        while (look() == '*' || look() == '/') {
            left = joined(left, this::part);
        }
        return left;
    }

    private Sum joined(Sum a, java.util.function.Supplier<Sum> next) {
        String op = String.valueOf((char) look());
        p++;
        Sum b = next.get();
        return r -> {
            int x = a.eval(r);
            int y = b.eval(r);
            return r.step(op, x, y);
        };
    }

    private Sum part() {
        int c = look();
        if (digit(c)) {
            int k = made.numbers.size();
            made.numbers.add(number());
            passDigits();
            return r -> r.program.inputs.size() + 1 + k;
        }
        if (c == '(') {
            eatOpening('(');
            Sum of = sum();
            eatClosing(')');
            return of;
        }
        String w = word();
        if (w.equals("abs") || w.equals("min") || w.equals("max")) {
            p += 3;
            eatOpening('(');
            Sum a = sum();
            if (!w.equals("abs")) {
                eat(',');
            }
            Sum b = w.equals("abs") ? null : sum();
            eatClosing(')');
            return r -> {
                int x = a.eval(r);
                int y = b == null ? x : b.eval(r);
                return r.step(w, x, y);
            };
        }
        String name = oldName();
        if (!made.rows.containsKey(name)) {
            return r -> r.single.get(name);
        }
        Sum index = index();
        return r -> r.rows.get(name)[r.placeOf(name, index.eval(r))];
    }

    private Sum index() {
        eatOpening('[');
        Sum of = sum();
        eatClosing(']');
        return of;
    }
}
