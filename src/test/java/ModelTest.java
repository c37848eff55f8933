import java.util.Arrays;
import java.util.Map;
import java.util.Random;
import java.util.TreeMap;

/** Runs of calls by chance (always the same), each answered by the class and by the Model alike. */
public final class ModelTest {
    private static final int RUNS = 3000;
    /** An object is used for at most 512 calls; no step of a run has more than the rest. */
    private static final int CALLS = 512 - 100;
    private final Random random;
    private final TextMaker maker;
    private final AnswerSlices x = new AnswerSlices();
    private final Model m = new Model();
    private final StringBuilder told = new StringBuilder();
    private int calls = 0;
    private static final int[] FAULTS = new int[8];
    private static final Map<String, int[]> ANSWERS = new TreeMap<>();

    private ModelTest(long seed) {
        random = new Random(seed);
        maker = new TextMaker(random);
    }

    public static void main(String[] args) {
        for (int run = 0; run < RUNS && !Due.anyWrong(); run++) {
            ModelTest t = new ModelTest(run);
            t.begin();
            while (t.calls < CALLS && !Due.anyWrong()) t.step();
            t.tellAll();
            if (Due.anyWrong()) System.out.println("run " + run + ":\n" + t.told);
        }
        System.out.println("sound reads, then faults by code: " + Arrays.toString(FAULTS));
        if (args.length > 0) tellAnswers();
        Due.done("ModelTest");
    }

    /** How often each call was answered, BAD, NONE, FULL, and refused by a FINDING. */
    private static void tellAnswers() {
        ANSWERS.forEach((call, times) -> System.out.println(call + " " + Arrays.toString(times)));
    }

    private int near(int n) {
        return random.nextInt(12) == 0 ? random.nextInt(n + 3) - 1 : random.nextInt(Math.max(1, n));
    }

    private long cellValue() {
        return switch (random.nextInt(4)) {
            case 0 -> random.nextLong();
            case 1 -> random.nextBoolean() ? Long.MAX_VALUE - random.nextInt(3) : Long.MIN_VALUE + random.nextInt(3);
            case 2 -> random.nextInt();
            default -> random.nextInt(5) - 1;
        };
    }

    private void due(String call, long got, long want) {
        calls++;
        told.append(call).append(" -> ").append(got).append('\n');
        int[] times = ANSWERS.computeIfAbsent(call.substring(0, call.indexOf('(')), x -> new int[5]);
        times[want < -3 ? 4 : want < 0 ? (int) -want : 0]++;
        Due.due(call, got, want);
    }

    /** Some data; and now and then so many FINDINGS that it is FULL soon. */
    private void begin() {
        for (int c = 0; c < 6; c++) {
            int kind = random.nextInt(3) == 0 ? 4 : random.nextInt(8), n = random.nextInt(5);
            due("row(" + c + ", " + kind + ", " + n + ")", x.row(c, kind, n), m.row(c, kind, n));
        }
        if (random.nextInt(6) > 0) return;
        String one = "(try 1/0 else 0)";
        typeAndRead("die d=0 to 7;die e=0 to 7;ask " + one + ("+" + one).repeat(14) + ";");
        for (int n = 0; n < 3; n++) due("odds(0, 0)", x.odds(0, 0), m.odds(0, 0));
    }

    private void step() {
        int pick = random.nextInt(100);
        if (pick < 20) {
            columnStep();
        } else if (pick < 26) {
            readStep();
        } else if (pick < 40) {
            tellStep();
        } else {
            workStep();
            due("above()", x.above(), m.above());
            due("below()", x.below(), m.below());
        }
        if (random.nextInt(4) == 0) due("asked()", x.asked(), m.asked());
        if (random.nextInt(40) == 0) tellAll();
    }

    private void tellAll() {
        due("digest()", x.digest(), m.digest());
        due("asked()", x.asked(), m.asked());
        due("above()", x.above(), m.above());
        due("below()", x.below(), m.below());
        for (int what = 0; what <= 13; what++) due("count(" + what + ")", x.count(what), m.count(what));
    }

    private void columnStep() {
        int c = near(6), o = near(6), i = near(4), sort = near(8);
        long v = cellValue();
        switch (random.nextInt(8)) {
            case 0, 1 -> {
                int kind = random.nextInt(10) == 0 ? -2 : near(8);
                int n = random.nextInt(10) == 0 ? random.nextInt(30) - 5 : random.nextInt(6);
                due("row(" + c + ", " + kind + ", " + n + ")", x.row(c, kind, n), m.row(c, kind, n));
            }
            case 2 -> due("share(" + c + ", " + o + ")", x.share(c, o), m.share(c, o));
            case 3 -> due("copy(" + c + ", " + o + ")", x.copy(c, o), m.copy(c, o));
            case 4, 5 -> due("put(" + c + ", " + i + ", " + sort + ", " + v + ")",
                x.put(c, i, sort, v), m.put(c, i, sort, v));
            case 6 -> due("get(" + c + ", " + i + ", " + sort + ")", x.get(c, i, sort), m.get(c, i, sort));
            default -> {
                int what = near(3);
                due("about(" + c + ", " + what + ")", x.about(c, what), m.about(c, what));
            }
        }
    }

    private void readStep() {
        if (random.nextInt(60) == 0) due("clear()", x.clear(), m.clear());
        typeAndRead(maker.make());
    }

    private void typeAndRead(String text) {
        boolean full = false;
        for (int at = 0; at < text.length() && !full;) {
            int n = Math.min(text.length() - at, random.nextInt(3) > 0 ? 8 : 1 + random.nextInt(8));
            long w = random.nextLong();
            for (int i = 0; i < n; i++) w = w << 8 | text.charAt(at + i);
            int has = m.type(w, n);
            due("type(" + w + ", " + n + ")", x.type(w, n), has);
            full = has == Model.FULL;
            at += n;
        }
        if (random.nextInt(30) == 0) {
            int n = random.nextInt(12) - 1;
            due("type(1, " + n + ")", x.type(1, n), m.type(1, n));
        }
        due("count(13)", x.count(13), m.count(13));
        told.append(text).append('\n');
        due("read()", x.read(), m.read());
        due("fault()", x.fault(), m.fault());
        FAULTS[m.fault()]++;
    }

    private void tellStep() {
        int s = near(m.count(0)), what = near(5), q = near(m.count(4)), c = near(14);
        switch (random.nextInt(5)) {
            case 0, 1 -> due("statement(" + s + ", " + what + ")", x.statement(s, what), m.statement(s, what));
            case 2 -> due("count(" + c + ")", x.count(c), m.count(c));
            case 3 -> due("needs(" + q + ", " + s + ")", x.needs(q, s), m.needs(q, s));
            default -> due("slice(" + q + ")", x.slice(q), m.slice(q));
        }
    }

    private void workStep() {
        int q = near(m.count(4)), o = near(m.count(4)), see = near(m.count(3)), draw = near(m.count(1));
        int v = random.nextInt(5) - 1, i = near(4), a = near(6);
        int high = a + near(4);
        switch (random.nextInt(13)) {
            case 0 -> due("odds(" + q + ", " + v + ")", x.odds(q, v), m.odds(q, v));
            case 1 -> due("fails(" + q + ", " + i + ")", x.fails(q, i), m.fails(q, i));
            case 2 -> due("values(" + q + ")", x.values(q), m.values(q));
            case 3 -> due("value(" + q + ", " + i + ")", x.value(q, i), m.value(q, i));
            case 4 -> due("mean(" + q + ")", x.mean(q), m.mean(q));
            case 5 -> due("cut(" + see + ")", x.cut(see), m.cut(see));
            case 6 -> due("kept()", x.kept(), m.kept());
            case 7 -> due("shown(" + i + ", " + draw + ")", x.shown(i, draw), m.shown(i, draw));
            case 8 -> due("apart(" + q + ", " + o + ")", x.apart(q, o), m.apart(q, o));
            case 9 -> due("same(" + q + ", " + v + ")", x.same(q, v), m.same(q, v));
            case 10 -> due("worth(" + q + ", " + v + ", " + see + ")", x.worth(q, v, see), m.worth(q, v, see));
            case 11 -> due("sway(" + q + ", " + v + ", " + draw + ", " + a + ")",
                x.sway(q, v, draw, a), m.sway(q, v, draw, a));
            default -> due("worst(" + q + ", " + v + ", " + draw + ", " + a + ", " + high + ")",
                x.worst(q, v, draw, a, high), m.worst(q, v, draw, a, high));
        }
    }
}
