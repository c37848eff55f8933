import java.util.function.Supplier;
import java.util.function.ToIntFunction;

/**
 * "Refused, and nothing changes, is, of several the first: BAD; NONE; FULL; then FINDINGS": every
 * call with every number that is not as told, every NONE, every FULL, every FINDING, and which of
 * two comes first. After each of them all that can be told of the object is as it was.
 */
public final class RefusedTest {
    private static final int BAD = -1, NONE = -2, FULL = -3, NOTHING = -11, BEYOND = -12, CAST = -13, SIZE = -14;
    private static final int LEAST = Integer.MIN_VALUE, MOST = Integer.MAX_VALUE;
    private static final String RICH =
        "coin a=1 of 3;die d=1 to 2;let b=1/(d-1);see a+d-1;ask b;ask a;see 1;ask 4;";

    /** What each refused call of a test is made on, and what it answers. */
    private final Supplier<AnswerSlices> made;
    private final int answer;

    private RefusedTest(Supplier<AnswerSlices> made, int answer) {
        this.made = made;
        this.answer = answer;
    }

    private void by(String call, ToIntFunction<AnswerSlices> refused) {
        Due.refused(call, made, refused, answer);
    }

    public static void main(String[] args) {
        RefusedTest bad = new RefusedTest(RefusedTest::rich, BAD);
        bad.columns();
        bad.kinds();
        bad.texts();
        bad.worked();
        bad.rests();
        bad.turns();
        reach();
        sizeAndNothing();
        beyondAndCast();
        new RefusedTest(RefusedTest::barren, NONE).noRunRemains();
        new RefusedTest(RefusedTest::cleared, BAD).noText();
        noTextIsKept();
        fullTape();
        new RefusedTest(RefusedTest::overfull, FULL).full();
        new RefusedTest(RefusedTest::overfull, BAD).badAheadOfFull();
        new RefusedTest(RefusedTest::barrenAndOverfull, FULL).noRunRemains();
        faultyReads();
        Due.done("RefusedTest");
    }

    /** An object in which nothing is as at first: 3 QUESTIONS, 2 SEES, a coin, a die, a FAULT, a TAPE. */
    private static AnswerSlices rich() {
        AnswerSlices x = richButTape();
        Due.due("rich", Due.read(x, "ask ?"), -104);
        Due.type(x, "see 0;");
        return x;
    }

    private static AnswerSlices richButTape() {
        AnswerSlices x = new AnswerSlices();
        x.row(0, 4, 3);
        x.put(0, 1, 4, 7);
        x.share(2, 0);
        x.row(3, 0, 2);
        x.put(3, 1, 0, 1);
        x.row(5, 5, 0);
        Due.due("rich", Due.read(x, RICH), 8);
        Due.board("rich", x, x.odds(1, 1), 1, 2);
        Due.asked("rich", x, x.get(0, 1, 4), 7);
        return x;
    }

    /** No RUN REMAINS: all are CUT, but for those of WEIGHT 0. */
    private static AnswerSlices barren() {
        AnswerSlices x = richButTape();
        Due.due("barren", Due.read(x, "coin a=1 of 3;coin z=0 of 2;ask a;ask 3;see z+a*0;"), 5);
        return x;
    }

    private static AnswerSlices cleared() {
        AnswerSlices x = rich();
        x.clear();
        return x;
    }

    private static AnswerSlices overfull() {
        AnswerSlices x = Due.withFindings(3000);
        Due.read(x, "coin a=1 of 3;die d=1 to 2;see a+d-1;ask d;ask a;");
        Due.type(x, "see 0;");
        return x;
    }

    private static AnswerSlices barrenAndOverfull() {
        AnswerSlices x = Due.withFindings(3000);
        Due.read(x, "coin a=1 of 3;coin z=0 of 2;ask a;ask 3;see z+a*0;");
        return x;
    }

    private void columns() {
        for (int c : new int[] {-1, 6, -2, LEAST, MOST}) {
            by("2: row of column " + c, x -> x.row(c, 4, 1));
            by("2: no row of column " + c, x -> x.row(c, NONE, 1));
            by("2: BAD ahead of SIZE, column " + c, x -> x.row(c, 4, -1));
            by("3: share, column " + c, x -> x.share(c, 0));
            by("3: share, other " + c, x -> x.share(1, c));
            by("4: copy, column " + c, x -> x.copy(c, 0));
            by("4: copy, other " + c, x -> x.copy(1, c));
            by("4: BAD ahead of NOTHING, column " + c, x -> x.copy(c, 1));
            by("5: put, column " + c, x -> x.put(c, 1, 4, 9));
            by("6: get, column " + c, x -> x.get(c, 1, 4));
            by("8: about, column " + c, x -> x.about(c, 0));
        }
        for (int what : new int[] {-1, 3, LEAST, MOST}) {
            by("8: what " + what, x -> x.about(0, what));
            by("8: BAD ahead of NOTHING, what " + what, x -> x.about(1, what));
        }
    }

    private void kinds() {
        for (int kind : new int[] {-1, 8, -3, LEAST, MOST}) {
            by("2: kind " + kind, x -> x.row(0, kind, 1));
            by("2: BAD ahead of SIZE, kind " + kind, x -> x.row(0, kind, -1));
        }
        for (int n : new int[] {21, 22, MOST}) by("2: n " + n, x -> x.row(0, 4, n));
        for (int sort : new int[] {-1, 8, NONE, LEAST, MOST}) {
            by("5: sort " + sort, x -> x.put(0, 1, sort, 9));
            by("6: sort " + sort, x -> x.get(0, 1, sort));
            by("5: BAD ahead of NOTHING, sort " + sort, x -> x.put(1, 0, sort, 9));
            by("6: BAD ahead of NOTHING, sort " + sort, x -> x.get(1, 0, sort));
            by("5: BAD ahead of BEYOND, sort " + sort, x -> x.put(0, 3, sort, 9));
            by("6: BAD ahead of BEYOND, sort " + sort, x -> x.get(0, 3, sort));
        }
    }

    private void texts() {
        for (int n : new int[] {0, -1, 9, LEAST, MOST}) by("9: n " + n, x -> x.type(65, n));
        for (int s : new int[] {-1, 8, 16, LEAST, MOST}) by("12: s " + s, x -> x.statement(s, 0));
        for (int what : new int[] {-1, 5, LEAST, MOST}) by("12: what " + what, x -> x.statement(0, what));
        for (int what : new int[] {-1, 14, LEAST, MOST}) by("13: what " + what, x -> x.count(what));
    }

    private void worked() {
        for (int q : new int[] {-1, 3, 16, LEAST, MOST}) {
            by("14: question " + q, x -> x.odds(q, 1));
            by("15: question " + q, x -> x.fails(q, 5));
            by("16: question " + q, x -> x.values(q));
            by("17: question " + q, x -> x.value(q, 0));
            by("17: BAD ahead of NONE, question " + q, x -> x.value(q, 99));
            by("18: question " + q, x -> x.mean(q));
            by("22: question " + q, x -> x.apart(q, 0));
            by("22: other " + q, x -> x.apart(0, q));
        }
        for (int f : new int[] {-1, 0, 7, -11, LEAST, MOST}) by("15: f " + f, x -> x.fails(0, f));
        for (int n : new int[] {-1, 2, 16, LEAST, MOST}) {
            by("19: see " + n, x -> x.cut(n));
            by("21: draw " + n, x -> x.shown(0, n));
            by("21: BAD ahead of NONE, draw " + n, x -> x.shown(99, n));
        }
    }

    private void rests() {
        for (int q : new int[] {-1, 3, 16, LEAST, MOST}) {
            by("23: question " + q, x -> x.needs(q, 0));
            by("24: question " + q, x -> x.slice(q));
            by("25: question " + q, x -> x.same(q, 1));
            by("26: question " + q, x -> x.worth(q, 1, 0));
            by("27: question " + q, x -> x.sway(q, 1, 0, 1));
            by("28: question " + q, x -> x.worst(q, 1, 0, 1, 1));
        }
        for (int s : new int[] {-1, 8, 16, LEAST, MOST}) by("23: s " + s, x -> x.needs(0, s));
        for (int n : new int[] {-1, 2, 16, LEAST, MOST}) {
            by("26: see " + n, x -> x.worth(1, 1, n));
            by("27: draw " + n, x -> x.sway(1, 1, n, 1));
            by("28: draw " + n, x -> x.worst(1, 1, n, 1, 1));
        }
    }

    /** What a coin can not be turned to. */
    private void turns() {
        by("27: a die", x -> x.sway(1, 1, 1, 1));
        by("28: a die", x -> x.worst(1, 1, 1, 1, 1));
        for (int a : new int[] {-1, 4, 12, LEAST, MOST}) {
            by("27: a " + a, x -> x.sway(1, 1, 0, a));
            by("28: low and high " + a, x -> x.worst(1, 1, 0, a, a));
            by("28: low " + a, x -> x.worst(1, 1, 0, a, 3));
            by("28: high " + a, x -> x.worst(1, 1, 0, 0, a));
        }
        by("28: high below low", x -> x.worst(1, 1, 0, 3, 2));
        by("28: high below low, far", x -> x.worst(1, 1, 0, MOST, LEAST));
    }

    /** "high is low .. low + 4" */
    private static void reach() {
        Supplier<AnswerSlices> wide = () -> Due.of("coin a=1 of 12;ask a;");
        for (int from = 0; from <= 8; from++) {
            int low = from;
            Due.due("28: high is low + 4", wide.get().worst(0, 1, 0, low, low + 4), low);
            Due.due("28: high is low", wide.get().worst(0, 1, 0, low, low), low);
            Due.refused("28: high is low + 5", wide, x -> x.worst(0, 1, 0, low, low + 5), BAD);
            Due.refused("28: high is low - 1", wide, x -> x.worst(0, 1, 0, low, low - 1), BAD);
        }
    }

    private static void sizeAndNothing() {
        RefusedTest size = new RefusedTest(RefusedTest::rich, SIZE);
        for (int kind = 0; kind < 8; kind++) {
            int of = kind;
            for (int n : new int[] {-1, -2, LEAST}) size.by("2: n " + n, x -> x.row(0, of, n));
        }
        RefusedTest nothing = new RefusedTest(RefusedTest::rich, NOTHING);
        nothing.by("4: no ROW", x -> x.copy(0, 1));
        nothing.by("4: no ROW, of itself", x -> x.copy(1, 1));
        for (int what = 0; what <= 2; what++) {
            int told = what;
            nothing.by("8: no ROW", x -> x.about(1, told));
        }
        for (int i : new int[] {-1, 0, 20, LEAST, MOST}) {
            nothing.by("5: NOTHING ahead of BEYOND", x -> x.put(1, i, 0, 9));
            nothing.by("6: NOTHING ahead of BEYOND", x -> x.get(1, i, 0));
        }
    }

    private static void beyondAndCast() {
        RefusedTest beyond = new RefusedTest(RefusedTest::rich, BEYOND);
        for (int i : new int[] {-1, 0, 1, LEAST, MOST}) {
            beyond.by("5: of no CELLS, " + i, x -> x.put(5, i, 5, 9));
            beyond.by("6: of no CELLS, " + i, x -> x.get(5, i, 5));
            beyond.by("5: BEYOND ahead of CAST", x -> x.put(5, i, 0, 9));
            beyond.by("6: BEYOND ahead of CAST", x -> x.get(5, i, 0));
        }
        for (int i : new int[] {-1, 3, 20, LEAST, MOST}) {
            beyond.by("5: CELL " + i, x -> x.put(0, i, 4, 9));
            beyond.by("6: CELL " + i, x -> x.get(0, i, 4));
        }
        RefusedTest cast = new RefusedTest(RefusedTest::rich, CAST);
        cast.by("5: a long into ints", x -> x.put(0, 1, 5, 9));
        cast.by("6: ints as a short", x -> x.get(0, 1, 3));
        cast.by("5: an int into truths", x -> x.put(3, 1, 4, 0));
        cast.by("6: truths as an int", x -> x.get(3, 1, 4));
    }

    /** By NONE; or by FULL, which is ahead of a NONE that needs RUNS. */
    private void noRunRemains() {
        by("14: odds", x -> x.odds(0, 1));
        by("14: odds of what is sure", x -> x.odds(1, 3));
        by("15: fails", x -> x.fails(0, 5));
        by("17: value", x -> x.value(0, 0));
        by("18: mean", x -> x.mean(0));
        by("21: shown", x -> x.shown(0, 0));
        by("22: apart", x -> x.apart(0, 1));
        by("22: apart from itself", x -> x.apart(0, 0));
        by("25: same, in both", x -> x.same(0, 1));
        by("25: same, as it is", x -> x.same(1, 3));
        by("26: worth", x -> x.worth(0, 1, 0));
        by("27: sway", x -> x.sway(0, 1, 0, 2));
        by("28: worst", x -> x.worst(0, 1, 0, 0, 3));
    }

    private void noText() {
        by("12: no text", x -> x.statement(0, 0));
        by("14: no text", x -> x.odds(0, 1));
        by("15: no text", x -> x.fails(0, 5));
        by("16: no text", x -> x.values(0));
        by("17: no text", x -> x.value(0, 0));
        by("18: no text", x -> x.mean(0));
        by("19: no text", x -> x.cut(0));
        by("21: no text", x -> x.shown(0, 0));
        by("22: no text", x -> x.apart(0, 0));
        by("23: no text", x -> x.needs(0, 0));
        by("24: no text", x -> x.slice(0));
        by("25: no text", x -> x.same(0, 1));
        by("26: no text", x -> x.worth(0, 1, 0));
        by("27: no text", x -> x.sway(0, 1, 0, 1));
        by("28: no text", x -> x.worst(0, 1, 0, 1, 1));
    }

    private static void noTextIsKept() {
        new RefusedTest(AnswerSlices::new, NONE).by("20: a new object", AnswerSlices::kept);
        new RefusedTest(RefusedTest::cleared, NONE).by("20: cleared", AnswerSlices::kept);
        Supplier<AnswerSlices> faulty = () -> {
            AnswerSlices x = new AnswerSlices();
            Due.read(x, "ask 1;ask");
            return x;
        };
        new RefusedTest(faulty, NONE).by("20: a FAULT", AnswerSlices::kept);
        Supplier<AnswerSlices> clearedAndFull = () -> {
            AnswerSlices x = overfull();
            x.clear();
            return x;
        };
        new RefusedTest(clearedAndFull, NONE).by("20: NONE that needs no RUN ahead of FULL", AnswerSlices::kept);
    }

    /** "THE TAPE has at most 300 bytes." */
    private static void fullTape() {
        for (int fit = 0; fit <= 7; fit++) {
            int room = fit;
            Supplier<AnswerSlices> made = () -> {
                AnswerSlices x = new AnswerSlices();
                Due.type(x, "ask 1;" + " ".repeat(294 - room));
                return x;
            };
            for (int n = fit + 1; n <= 8; n++) {
                int more = n;
                Due.refused("9: " + n + " where " + fit + " fit", made, x -> x.type(0, more), FULL);
            }
            for (int n = 1; n <= fit; n++) {
                Due.due("9: " + n + " where " + fit + " fit", made.get().type(0, n), 300 - fit + n);
            }
            Due.refused("9: BAD ahead of FULL", made, x -> x.type(0, 9), BAD);
            Due.refused("9: BAD ahead of FULL", made, x -> x.type(0, 0), BAD);
            AnswerSlices x = made.get();
            x.type(0, 8);
            Due.due("9: what is refused is not typed", x.read(), 1);
        }
    }

    private void full() {
        by("14: odds", x -> x.odds(0, 1));
        by("15: fails", x -> x.fails(0, 5));
        by("16: values", x -> x.values(0));
        by("17: value", x -> x.value(0, 0));
        by("17: value, not so many", x -> x.value(0, 64));
        by("18: mean", x -> x.mean(0));
        by("19: cut", x -> x.cut(0));
        by("20: kept", x -> x.kept());
        by("21: shown", x -> x.shown(0, 0));
        by("21: shown, not so many", x -> x.shown(64, 0));
        by("22: apart", x -> x.apart(0, 1));
        by("25: same", x -> x.same(0, 1));
        by("26: worth", x -> x.worth(0, 1, 0));
        by("27: sway", x -> x.sway(0, 1, 0, 1));
        by("28: worst", x -> x.worst(0, 1, 0, 0, 3));
        AnswerSlices x = made.get();
        Due.due("23: not marked (W)", x.needs(0, 1), 1);
        Due.due("24: not marked (W)", x.slice(0), 4);
        Due.due("9: not marked (W)", x.type(32, 1), 7);
        Due.due("10: not marked (W)", x.read(), 1);
    }

    private void badAheadOfFull() {
        by("14: odds", x -> x.odds(2, 1));
        by("15: fails", x -> x.fails(0, 7));
        by("16: values", x -> x.values(2));
        by("17: value", x -> x.value(2, 0));
        by("18: mean", x -> x.mean(2));
        by("19: cut", x -> x.cut(1));
        by("21: shown", x -> x.shown(0, 2));
        by("22: apart", x -> x.apart(0, 2));
        by("25: same", x -> x.same(2, 1));
        by("26: worth", x -> x.worth(0, 1, 1));
        by("27: sway, a die", x -> x.sway(0, 1, 1, 1));
        by("27: sway, a", x -> x.sway(0, 1, 0, 4));
        by("28: worst", x -> x.worst(0, 1, 0, 3, 4));
        by("28: worst", x -> x.worst(0, 1, 0, 2, 1));
    }

    /** "the text stays as it was", and so does all else, but THE TAPE and the code of the FAULT. */
    private static void faultyReads() {
        String[] faulty = {"", "?", "ask", "let a=1;let a=2;", "ask z;", "coin a=3 of 2;", "ask 1;".repeat(17),
            "ask (((((((((1", "coin q=1 of 2;die r=1 to 2;let s=q;see r;ask s;ask 1;;"};
        for (String text : faulty) {
            AnswerSlices x = richButTape();
            String before = Due.state(x);
            int got = Due.read(x, text);
            Due.due("10: a FAULT in " + text, got <= -100 ? 1 : got, 1);
            Due.due("10: as it was:", Due.state(x).replaceFirst("fault [1-7]", "fault 0"), before);
            Due.due("24: of the text that stays", x.slice(0), 5);
            Due.board("14: of the text that stays", x, x.odds(1, 1), 1, 2);
        }
    }
}
