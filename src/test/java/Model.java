import java.lang.reflect.Array;
import java.math.BigInteger;
import java.util.ArrayList;
import java.util.Arrays;
import java.util.HashMap;
import java.util.HashSet;
import java.util.List;
import java.util.Map;
import java.util.Set;
import java.util.TreeMap;
import java.util.TreeSet;

/**
 * The document told a second time, in another way: real Java rows of eight kinds asked through
 * reflection, trees of parts, failures thrown, RUNS as maps, fractions of BigIntegers.
 */
final class Model {
    static final int BAD = -1, NONE = -2, FULL = -3;
    private static final Class<?>[] KINDS = {boolean.class, byte.class, char.class, short.class, int.class,
        long.class, float.class, double.class};
    private static final List<String> WORDS = List.of("coin", "die", "let", "see", "ask", "of", "to", "col", "if",
        "then", "else", "try", "fail");

    /** A FINDING that came, or a failed NAME's that is passed on. */
    private static final class Finding extends RuntimeException {
        final int code;

        Finding(int code) {
            super(null, null, false, false);
            this.code = code;
        }
    }

    private static final class Fault extends RuntimeException {
        final int place, code;

        Fault(int place, int code) {
            super(null, null, false, false);
            this.place = place;
            this.code = code;
        }
    }

    private record Token(int begin, String text) { }

    private record Exp(String what, int number, String name, List<Exp> parts) { }

    private record Sentence(int word, int begin, String name, int a, int b, Exp exp) { }

    /** What a QUESTION gave in a RUN: a value, or, behind the mark, a FINDING. */
    private record Outcome(boolean failed, int v) { }

    private record Run(Map<String, Integer> drawn, BigInteger weight, int cutBy, List<Outcome> answers) { }

    private Object[] columns = new Object[6];
    private byte[] tape = {};
    private byte[] textBytes = {};
    private List<Sentence> text = new ArrayList<>();
    private List<Token> textTokens = new ArrayList<>();
    private int fault;
    private long asked;
    private BigInteger above = BigInteger.ZERO, below = BigInteger.ONE;
    private final int[] came = new int[7];

    // ---- columns

    private static boolean in(int v, int low, int high) {
        return v >= low && v <= high;
    }

    int row(int column, int kind, int n) {
        if (!in(column, 0, 5) || kind != NONE && (!in(kind, 0, 7) || n > 20)) return BAD;
        if (kind == NONE) {
            columns[column] = null;
            return 1;
        }
        try {
            columns[column] = Array.newInstance(KINDS[kind], n);
            return 1;
        } catch (NegativeArraySizeException e) {
            return -14;
        }
    }

    int share(int column, int other) {
        if (!in(column, 0, 5) || !in(other, 0, 5)) return BAD;
        boolean had = columns[column] == columns[other];
        columns[column] = columns[other];
        return had ? 0 : 1;
    }

    int copy(int column, int other) {
        if (!in(column, 0, 5) || !in(other, 0, 5)) return BAD;
        Object row = columns[other];
        if (row == null) return -11;
        int n = Array.getLength(row);
        Object twin = Array.newInstance(row.getClass().getComponentType(), n);
        System.arraycopy(row, 0, twin, 0, n);
        columns[column] = twin;
        return n;
    }

    int put(int column, int i, int sort, long v) {
        if (!in(column, 0, 5) || !in(sort, 0, 7)) return BAD;
        Object row = columns[column];
        try {
            switch (sort) {
                case 0 -> Array.setBoolean(row, i, v != 0);
                case 1 -> Array.setByte(row, i, (byte) v);
                case 2 -> Array.setChar(row, i, (char) v);
                case 3 -> Array.setShort(row, i, (short) v);
                case 4 -> Array.setInt(row, i, (int) v);
                case 5 -> Array.setLong(row, i, v);
                case 6 -> Array.setFloat(row, i, (float) v);
                default -> Array.setDouble(row, i, (double) v);
            }
            return 1;
        } catch (NullPointerException e) {
            return -11;
        } catch (ArrayIndexOutOfBoundsException e) {
            return -12;
        } catch (IllegalArgumentException e) {
            return -13;
        }
    }

    private static long out(Object row, int i, int sort) {
        return switch (sort) {
            case 0 -> Array.getBoolean(row, i) ? 1 : 0;
            case 1 -> Array.getByte(row, i);
            case 2 -> Array.getChar(row, i);
            case 3 -> Array.getShort(row, i);
            case 4 -> Array.getInt(row, i);
            case 5 -> Array.getLong(row, i);
            case 6 -> (long) Array.getFloat(row, i);
            default -> (long) Array.getDouble(row, i);
        };
    }

    private static long outOrFinding(Object row, int i, int sort) {
        try {
            return out(row, i, sort);
        } catch (NullPointerException e) {
            throw new Finding(1);
        } catch (ArrayIndexOutOfBoundsException e) {
            throw new Finding(2);
        } catch (IllegalArgumentException e) {
            throw new Finding(3);
        }
    }

    int get(int column, int i, int sort) {
        if (!in(column, 0, 5) || !in(sort, 0, 7)) return BAD;
        try {
            asked = outOrFinding(columns[column], i, sort);
            return 1;
        } catch (Finding f) {
            return -10 - f.code;
        }
    }

    long asked() {
        return asked;
    }

    int about(int column, int what) {
        if (!in(column, 0, 5) || !in(what, 0, 2)) return BAD;
        Object row = columns[column];
        if (row == null) return -11;
        if (what == 0) return Arrays.asList(KINDS).indexOf(row.getClass().getComponentType());
        if (what == 1) return Array.getLength(row);
        int least = 0;
        while (columns[least] != row) least++;
        return least;
    }

    // ---- texts

    int type(long w, int n) {
        if (!in(n, 1, 8)) return BAD;
        if (tape.length + n > 300) return FULL;
        int from = tape.length;
        tape = Arrays.copyOf(tape, from + n);
        for (int i = 0; i < n; i++) tape[from + i] = (byte) (w >>> 8 * (n - 1 - i));
        return tape.length;
    }

    int read() {
        byte[] bytes = tape;
        tape = new byte[0];
        Reader reader = new Reader(bytes);
        try {
            List<Sentence> next = reader.text();
            text = next;
            textBytes = bytes;
            textTokens = reader.passed;
            fault = 0;
            return text.size();
        } catch (Fault f) {
            fault = f.code;
            return -100 - f.place;
        }
    }

    /** Takes tokens from the front of a string, one at a time. */
    private static final class Reader {
        final String s;
        final List<Token> passed = new ArrayList<>();
        private final List<Sentence> done = new ArrayList<>();
        private int at = 0;
        private int open = 0;

        Reader(byte[] bytes) {
            StringBuilder b = new StringBuilder();
            for (byte x : bytes) b.append((char) (x & 255));
            s = b.toString();
        }

        /** The token ahead; an empty one is the end, null is none. */
        private Token peek() {
            int i = at;
            while (i < s.length() && (s.charAt(i) == ' ' || s.charAt(i) == '\n')) i++;
            if (i == s.length()) return new Token(i, "");
            String rest = s.substring(i);
            String t = rest.matches("(?s)[a-z].*") ? rest.replaceFirst("(?s)^([a-z0-9]*).*", "$1")
                : rest.matches("(?s)[0-9].*") ? rest.replaceFirst("(?s)^([0-9]*).*", "$1")
                : rest.substring(0, 1);
            boolean fine = t.length() <= 6 && t.matches("[a-z0-9]+|[;=+*/<()\\[\\]-]");
            return new Token(i, fine ? t : null);
        }

        private boolean ahead(String t) {
            return t.equals(peek().text);
        }

        private boolean aheadNumber() {
            return peek().text != null && peek().text.matches("[0-9]+");
        }

        private boolean aheadName() {
            return peek().text != null && peek().text.matches("[a-z][a-z0-9]*") && !WORDS.contains(peek().text);
        }

        private Fault wrong() {
            return new Fault(peek().begin, peek().text == null ? 1 : 2);
        }

        private Token take() {
            Token t = peek();
            at = t.begin + t.text.length();
            passed.add(t);
            return t;
        }

        private void want(String t) {
            if (!ahead(t)) throw wrong();
            take();
        }

        private int wantNumber() {
            if (!aheadNumber()) throw wrong();
            return Integer.parseInt(take().text);
        }

        private boolean known(String name) {
            return done.stream().anyMatch(x -> name.equals(x.name));
        }

        List<Sentence> text() {
            do {
                sentence();
            } while (!ahead(""));
            return done;
        }

        private void sentence() {
            Token first = peek();
            int word = first.text == null ? -1 : WORDS.indexOf(first.text);
            if (!in(word, 0, 4)) throw wrong();
            if (done.size() == 16) throw new Fault(first.begin, 6);
            take();
            String name = null;
            if (word <= 2) {
                if (!aheadName()) throw wrong();
                if (known(peek().text)) throw new Fault(peek().begin, 3);
                name = take().text;
                want("=");
            }
            int a = 0, b = 0;
            Exp exp = null;
            if (word <= 1) {
                a = wantNumber();
                want(word == 0 ? "of" : "to");
                int place = peek().begin;
                b = wantNumber();
                if (word == 0 ? !in(b, 1, 12) || b < a : !in(b, a, a + 7)) throw new Fault(place, 5);
                if (word == 1) b = b - a + 1;
            } else {
                exp = exp();
            }
            if (!ahead(";")) throw wrong();
            Sentence next = new Sentence(word, first.begin, name, a, b, exp);
            done.add(next);
            if (word <= 1 && runsOf(done) > 64) throw new Fault(peek().begin, 6);
            take();
        }

        private Exp exp() {
            Exp left = sum();
            if (!ahead("<") && !ahead("=")) return left;
            String sign = take().text;
            return new Exp(sign, 0, null, List.of(left, sum()));
        }

        private Exp sum() {
            Exp left = term();
            while (ahead("+") || ahead("-")) {
                String sign = take().text;
                left = new Exp(sign, 0, null, List.of(left, term()));
            }
            return left;
        }

        private Exp term() {
            Exp left = factor();
            while (ahead("*") || ahead("/")) {
                String sign = take().text;
                left = new Exp(sign, 0, null, List.of(left, factor()));
            }
            return left;
        }

        private void openAt() {
            if (open == 8) throw new Fault(peek().begin, 7);
            open++;
            take();
        }

        private Exp factor() {
            if (aheadNumber()) return new Exp("number", wantNumber(), null, List.of());
            if (aheadName()) {
                if (!known(peek().text)) throw new Fault(peek().begin, 4);
                return new Exp("name", 0, take().text, List.of());
            }
            String t = peek().text == null ? "?" : peek().text;
            Exp made;
            switch (t) {
                case "-", "fail" -> {
                    openAt();
                    made = new Exp(t.equals("-") ? "minus" : t, 0, null, List.of(factor()));
                }
                case "(" -> {
                    openAt();
                    made = exp();
                    want(")");
                }
                case "col" -> {
                    take();
                    int place = peek().begin;
                    int k = wantNumber();
                    if (k > 5) throw new Fault(place, 5);
                    if (!ahead("[")) throw wrong();
                    openAt();
                    made = new Exp(t, k, null, List.of(exp()));
                    want("]");
                }
                case "if" -> {
                    openAt();
                    Exp one = exp();
                    want("then");
                    Exp two = exp();
                    want("else");
                    made = new Exp(t, 0, null, List.of(one, two, exp()));
                }
                case "try" -> {
                    openAt();
                    Exp one = exp();
                    want("else");
                    made = new Exp(t, 0, null, List.of(one, exp()));
                }
                default -> throw wrong();
            }
            open--;
            return made;
        }
    }

    private static long runsOf(List<Sentence> text) {
        long n = 1;
        for (Sentence s : text) {
            if (s.word == 0) n *= 2;
            if (s.word == 1) n *= s.b;
        }
        return n;
    }

    int fault() {
        return fault;
    }

    private static int group(int word) {
        return word <= 1 ? 0 : word - 1;
    }

    private List<Sentence> of(int group) {
        return text.stream().filter(s -> group(s.word) == group).toList();
    }

    int statement(int s, int what) {
        if (!in(s, 0, text.size() - 1) || !in(what, 0, 4)) return BAD;
        Sentence t = text.get(s);
        return switch (what) {
            case 0 -> t.word;
            case 1 -> t.begin;
            case 2 -> of(group(t.word)).indexOf(t);
            case 3 -> t.a;
            default -> t.b;
        };
    }

    int count(int what) {
        if (!in(what, 0, 13)) return BAD;
        if (what == 0) return text.size();
        if (what <= 4) return of(what - 1).size();
        if (what == 5) return text.isEmpty() ? 0 : (int) runsOf(text);
        if (what == 6) return textTokens.size();
        return what == 13 ? tape.length : came[what - 6];
    }

    // ---- what is worked

    private Finding came(int f) {
        came[f]++;
        return new Finding(f);
    }

    private int eval(Exp e, Map<String, Outcome> names) {
        switch (e.what) {
            case "number":
                return e.number;
            case "name":
                Outcome has = names.get(e.name);
                if (has.failed) throw new Finding(has.v);
                return has.v;
            case "if":
                return eval(e.parts.get(eval(e.parts.get(0), names) != 0 ? 1 : 2), names);
            case "try":
                try {
                    return eval(e.parts.get(0), names);
                } catch (Finding f) {
                    return eval(e.parts.get(1), names);
                }
            default:
                break;
        }
        int left = eval(e.parts.get(0), names);
        switch (e.what) {
            case "minus":
                return -left;
            case "fail":
                throw came(6);
            case "col":
                try {
                    return (int) outOrFinding(columns[e.number], left, 4);
                } catch (Finding f) {
                    throw came(f.code);
                }
            default:
                break;
        }
        int right = eval(e.parts.get(1), names);
        try {
            return switch (e.what) {
                case "+" -> left + right;
                case "-" -> left - right;
                case "*" -> left * right;
                case "<" -> left < right ? 1 : 0;
                case "=" -> left == right ? 1 : 0;
                default -> left / right;
            };
        } catch (ArithmeticException x) {
            throw came(5);
        }
    }

    private Outcome outcome(Exp e, Map<String, Outcome> names) {
        try {
            return new Outcome(false, eval(e, names));
        } catch (Finding f) {
            return new Outcome(true, f.code);
        }
    }

    private List<Run> work(Set<Integer> statements, int turned, int a) {
        List<Run> runs = new ArrayList<>();
        if (!text.isEmpty()) draw(0, new HashMap<>(), BigInteger.ONE, statements, turned, a, runs);
        return runs;
    }

    private List<Run> work() {
        return work(all(), -1, 0);
    }

    private Set<Integer> all() {
        Set<Integer> all = new HashSet<>();
        for (int s = 0; s < text.size(); s++) all.add(s);
        return all;
    }

    private void draw(int d, Map<String, Integer> drawn, BigInteger weight, Set<Integer> statements, int turned, int a,
            List<Run> runs) {
        List<Sentence> draws = of(0);
        if (d == draws.size()) {
            if (weight.signum() > 0) runs.add(workRun(new HashMap<>(drawn), weight, statements));
            return;
        }
        Sentence s = draws.get(d);
        if (!statements.contains(text.indexOf(s))) {
            draw(d + 1, drawn, weight, statements, turned, a, runs);
            return;
        }
        int heads = d == turned ? a : s.a;
        int low = s.word == 0 ? 0 : s.a;
        int high = s.word == 0 ? 1 : s.a + s.b - 1;
        for (int v = low; v <= high; v++) {
            drawn.put(s.name, v);
            int factor = s.word == 1 ? 1 : v == 1 ? heads : s.b - heads;
            draw(d + 1, drawn, weight.multiply(BigInteger.valueOf(factor)), statements, turned, a, runs);
        }
    }

    private Run workRun(Map<String, Integer> drawn, BigInteger weight, Set<Integer> statements) {
        Map<String, Outcome> names = new HashMap<>();
        drawn.forEach((name, v) -> names.put(name, new Outcome(false, v)));
        List<Outcome> answers = new ArrayList<>();
        int sees = 0;
        for (int i = 0; i < text.size(); i++) {
            Sentence s = text.get(i);
            boolean worked = statements.contains(i) && s.word >= 2;
            Outcome got = worked ? outcome(s.exp, names) : null;
            if (s.word == 2 && worked) names.put(s.name, got);
            if (s.word == 4) answers.add(got);
            if (s.word == 3 && worked && (got.failed || got.v == 0)) return new Run(drawn, weight, sees, answers);
            if (s.word == 3) sees++;
        }
        return new Run(drawn, weight, -1, answers);
    }

    private static List<Run> remaining(List<Run> runs) {
        return runs.stream().filter(r -> r.cutBy < 0).toList();
    }

    private static BigInteger weightOf(List<Run> runs) {
        return runs.stream().map(Run::weight).reduce(BigInteger.ZERO, BigInteger::add);
    }

    private static BigInteger weightOf(List<Run> runs, int question, Outcome outcome) {
        return weightOf(remaining(runs).stream().filter(r -> outcome.equals(r.answers.get(question))).toList());
    }

    private int show(BigInteger part, BigInteger whole) {
        if (whole.signum() == 0) return NONE;
        BigInteger divisor = part.gcd(whole);
        above = part.divide(divisor);
        below = whole.divide(divisor);
        return 1;
    }

    private boolean noQuestion(int question) {
        return !in(question, 0, of(3).size() - 1);
    }

    private boolean isFull() {
        return Arrays.stream(came).sum() >= 3000;
    }

    int odds(int question, int v) {
        if (noQuestion(question)) return BAD;
        if (isFull()) return FULL;
        List<Run> runs = work();
        return show(weightOf(runs, question, new Outcome(false, v)), weightOf(remaining(runs)));
    }

    int fails(int question, int f) {
        if (noQuestion(question) || !in(f, 1, 6)) return BAD;
        if (isFull()) return FULL;
        List<Run> runs = work();
        return show(weightOf(runs, question, new Outcome(true, f)), weightOf(remaining(runs)));
    }

    private static TreeMap<Integer, BigInteger> valuesOf(List<Run> runs, int question) {
        TreeMap<Integer, BigInteger> weights = new TreeMap<>();
        for (Run r : remaining(runs)) {
            Outcome o = r.answers.get(question);
            if (!o.failed) weights.merge(o.v, r.weight, BigInteger::add);
        }
        return weights;
    }

    int values(int question) {
        if (noQuestion(question)) return BAD;
        return isFull() ? FULL : valuesOf(work(), question).size();
    }

    int value(int question, int i) {
        if (noQuestion(question)) return BAD;
        if (isFull()) return FULL;
        List<Integer> rising = new ArrayList<>(valuesOf(work(), question).keySet());
        if (!in(i, 0, rising.size() - 1)) return NONE;
        asked = rising.get(i);
        return 1;
    }

    int mean(int question) {
        if (noQuestion(question)) return BAD;
        if (isFull()) return FULL;
        BigInteger sum = BigInteger.ZERO, whole = BigInteger.ZERO;
        for (Map.Entry<Integer, BigInteger> e : valuesOf(work(), question).entrySet()) {
            sum = sum.add(e.getValue().multiply(BigInteger.valueOf(e.getKey())));
            whole = whole.add(e.getValue());
        }
        return show(sum, whole);
    }

    int cut(int see) {
        if (!in(see, 0, of(2).size() - 1)) return BAD;
        if (isFull()) return FULL;
        List<Run> runs = work();
        return show(weightOf(runs.stream().filter(r -> r.cutBy == see).toList()), weightOf(runs));
    }

    int kept() {
        if (text.isEmpty()) return NONE;
        if (isFull()) return FULL;
        List<Run> runs = work();
        show(weightOf(remaining(runs)), weightOf(runs));
        return remaining(runs).size();
    }

    int shown(int k, int draw) {
        if (!in(draw, 0, of(0).size() - 1)) return BAD;
        if (isFull()) return FULL;
        List<Run> runs = remaining(work());
        if (!in(k, 0, runs.size() - 1)) return NONE;
        asked = runs.get(k).drawn.get(of(0).get(draw).name);
        return 1;
    }

    int apart(int question, int other) {
        if (noQuestion(question) || noQuestion(other)) return BAD;
        if (isFull()) return FULL;
        List<Run> runs = work();
        Set<Outcome> outcomes = new HashSet<>();
        for (Run r : remaining(runs)) {
            outcomes.add(r.answers.get(question));
            outcomes.add(r.answers.get(other));
        }
        BigInteger sum = BigInteger.ZERO;
        for (Outcome o : outcomes) {
            sum = sum.add(weightOf(runs, question, o).subtract(weightOf(runs, other, o)).abs());
        }
        return show(sum, weightOf(remaining(runs)).multiply(BigInteger.TWO));
    }

    // ---- what it rests on

    private static void names(Exp e, Set<String> into) {
        if (e == null) return;
        if (e.name != null) into.add(e.name);
        for (Exp part : e.parts) names(part, into);
    }

    private static Set<String> namesIn(Sentence s) {
        Set<String> names = new TreeSet<>();
        names(s.exp, names);
        return names;
    }

    private Sentence called(String name) {
        return text.stream().filter(s -> name.equals(s.name)).findFirst().orElseThrow();
    }

    private Set<String> drawsOf(Sentence s) {
        Set<String> draws = new TreeSet<>();
        if (s.word <= 1) draws.add(s.name);
        for (String name : namesIn(s)) draws.addAll(drawsOf(called(name)));
        return draws;
    }

    private Set<Integer> needsOf(int question) {
        Set<Integer> needed = new TreeSet<>();
        needed.add(text.indexOf(of(3).get(question)));
        for (int before = 0; before < needed.size();) {
            before = needed.size();
            for (int s : List.copyOf(needed)) {
                for (String name : namesIn(text.get(s))) needed.add(text.indexOf(called(name)));
                for (Sentence see : of(2)) {
                    Set<String> both = drawsOf(see);
                    both.retainAll(drawsOf(text.get(s)));
                    if (!both.isEmpty()) needed.add(text.indexOf(see));
                }
            }
        }
        return needed;
    }

    int needs(int question, int s) {
        if (noQuestion(question) || !in(s, 0, text.size() - 1)) return BAD;
        return needsOf(question).contains(s) ? 1 : 0;
    }

    int slice(int question) {
        return noQuestion(question) ? BAD : needsOf(question).size();
    }

    int same(int question, int v) {
        if (noQuestion(question)) return BAD;
        if (isFull()) return FULL;
        Outcome o = new Outcome(false, v);
        List<Run> one = work();
        List<Run> two = work(needsOf(question), -1, 0);
        BigInteger whole = weightOf(remaining(one)), sliced = weightOf(remaining(two));
        if (whole.signum() == 0 || sliced.signum() == 0) return NONE;
        return weightOf(one, question, o).multiply(sliced).equals(weightOf(two, question, o).multiply(whole)) ? 1 : 0;
    }

    int worth(int question, int v, int see) {
        if (noQuestion(question) || !in(see, 0, of(2).size() - 1)) return BAD;
        if (isFull()) return FULL;
        Outcome o = new Outcome(false, v);
        Set<Integer> others = all();
        others.remove(text.indexOf(of(2).get(see)));
        List<Run> one = work();
        List<Run> two = work(others, -1, 0);
        BigInteger whole = weightOf(remaining(one)), free = weightOf(remaining(two));
        if (whole.signum() == 0) return NONE;
        return show(weightOf(one, question, o).multiply(free).subtract(weightOf(two, question, o).multiply(whole)),
            whole.multiply(free));
    }

    private boolean noTurn(int draw, int a) {
        return !in(draw, 0, of(0).size() - 1) || of(0).get(draw).word != 0 || !in(a, 0, of(0).get(draw).b);
    }

    int sway(int question, int v, int draw, int a) {
        if (noQuestion(question) || noTurn(draw, a)) return BAD;
        if (isFull()) return FULL;
        List<Run> runs = work(all(), draw, a);
        return show(weightOf(runs, question, new Outcome(false, v)), weightOf(remaining(runs)));
    }

    int worst(int question, int v, int draw, int low, int high) {
        if (noQuestion(question) || noTurn(draw, low) || noTurn(draw, high) || !in(high, low, low + 4)) return BAD;
        if (isFull()) return FULL;
        int least = NONE;
        BigInteger part = null, whole = null;
        for (int a = low; a <= high; a++) {
            List<Run> runs = work(all(), draw, a);
            BigInteger p = weightOf(runs, question, new Outcome(false, v)), w = weightOf(remaining(runs));
            if (w.signum() > 0 && (least == NONE || p.multiply(whole).compareTo(part.multiply(w)) < 0)) {
                least = a;
                part = p;
                whole = w;
            }
        }
        if (least != NONE) show(part, whole);
        return least;
    }

    long above() {
        return above.longValueExact();
    }

    long below() {
        return below.longValueExact();
    }

    long digest() {
        long h = 17;
        for (int column = 0; column < 6; column++) {
            if (columns[column] == null) {
                h = 31 * h + NONE;
                continue;
            }
            for (int what = 0; what <= 2; what++) h = 31 * h + about(column, what);
            for (int i = 0; i < about(column, 1); i++) h = 31 * h + out(columns[column], i, about(column, 0));
        }
        for (byte b : textBytes) h = 31 * h + b;
        return h;
    }

    int clear() {
        int statements = text.size();
        columns = new Object[6];
        tape = new byte[0];
        textBytes = new byte[0];
        text = new ArrayList<>();
        textTokens = new ArrayList<>();
        fault = 0;
        asked = 0;
        above = BigInteger.ZERO;
        below = BigInteger.ONE;
        return statements;
    }
}
