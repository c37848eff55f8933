/** Promises 14 to 22, 29 and 30: odds, fails, values, value, mean, cut, kept, shown, apart, above, below. */
public final class WorkedTest {
    private static final int BAD = -1, NONE = -2, FULL = -3;
    private static final int[] OUTSIDE = {-1, 9, Integer.MIN_VALUE, Integer.MAX_VALUE};

    public static void main(String[] args) {
        odds();
        exps();
        findings();
        fails();
        lets();
        values();
        mean();
        cut();
        kept();
        shown();
        apart();
        full();
        fullAt3000();
        firstPlaces();
        sixteenStatements();
        Due.done("WorkedTest");
    }

    private static void odds() {
        AnswerSlices x = Due.of("coin a=1 of 4;coin b=2 of 3;ask a+b;see a+b;ask a;");
        Due.board("14: both", x, x.odds(0, 2), 2, 9);
        Due.board("14: one", x, x.odds(0, 1), 7, 9);
        Due.board("14: never", x, x.odds(0, 5), 0, 1);
        Due.board("14: an ask ahead of a see counts by what REMAINS", x, x.odds(0, 0), 0, 1);
        Due.board("14: the other", x, x.odds(1, 1), 1, 3);
        for (int q : OUTSIDE) Due.due("14: question", x.odds(q, 0), BAD);
        Due.due("14: question 2", x.odds(2, 0), BAD);
        Due.onBoard("14: nothing changes", x, 1, 3);
        AnswerSlices none = Due.of("coin a=1 of 4;see 2<a;ask a;");
        Due.due("14: no run remains", none.odds(0, 0), NONE);
        Due.onBoard("29, 30: at first", none, 0, 1);
        AnswerSlices sure = Due.of("coin a=4 of 4;ask a;ask 3;");
        Due.board("14: sure", sure, sure.odds(0, 1), 1, 1);
        Due.board("14: weight 0", sure, sure.odds(0, 0), 0, 1);
        Due.board("14: without draws", sure, sure.odds(1, 3), 1, 1);
        AnswerSlices dice = Due.of("die a=1 to 6;die b=1 to 6;ask a+b;");
        Due.board("14: two dice", dice, dice.odds(0, 7), 1, 6);
        Due.board("14: least terms", dice, dice.odds(0, 3), 1, 18);
        AnswerSlices zero = Due.of("coin a=0 of 4;see a;ask 1;");
        Due.due("14: what remains is of weight 0", zero.odds(0, 1), NONE);
    }

    private static void is(String exp, long want) {
        AnswerSlices x = data();
        if (Due.read(x, "ask " + exp + ";") != 1) Due.due("read " + exp, x.fault(), 0);
        Due.asked("14: " + exp, x, x.value(0, 0), want);
    }

    /** COLUMN 0 ints, 1 longs, 2 chars, 3 bytes, 4 truths, 5 none. */
    private static AnswerSlices data() {
        AnswerSlices x = new AnswerSlices();
        x.row(0, 4, 3);
        x.put(0, 1, 4, Integer.MIN_VALUE);
        x.put(0, 2, 4, Integer.MAX_VALUE);
        x.row(1, 5, 2);
        x.row(2, 2, 1);
        x.put(2, 0, 2, -1);
        x.row(3, 1, 1);
        x.put(3, 0, 1, 255);
        x.row(4, 0, 1);
        return x;
    }

    private static void exps() {
        is("col 0[1]", Integer.MIN_VALUE);
        is("col 0[2]+1", Integer.MIN_VALUE);
        is("col 0[1]/-1", Integer.MIN_VALUE);
        is("-col 0[1]", Integer.MIN_VALUE);
        is("999999*999999", 999999 * 999999);
        is("col 2[0]", 65535);
        is("col 3[0]", -1);
        is("col 0[col 0[0]+2]", Integer.MAX_VALUE);
        is("-7/2", -3);
        is("7/-2", -3);
        is("1<2", 1);
        is("2<2", 0);
        is("2=2", 1);
        is("2=3", 0);
        is("if -1 then 4 else fail 5", 4);
        is("if 0 then fail 4 else 5", 5);
        is("try 1/0 else 6", 6);
        is("try col 5[0] else 7", 7);
        is("1+2*try 3*(4+fail 5) else 6", 13);
        is("try try fail 1 else fail 2 else 3", 3);
        is("try (try 1 else 2)+fail 3 else 9", 9);
        is("try (try fail 1 else 2)+fail 3 else 9", 9);
        is("try 5+try (try 1 else 2)+fail 3 else 4 else 9", 9);
    }

    private static void failing(String exp, int by, int... counts) {
        AnswerSlices x = data();
        if (Due.read(x, "ask " + exp + ";") != 1) Due.due("read " + exp, x.fault(), 0);
        Due.board("15: " + exp, x, x.fails(0, by), 1, 1);
        for (int f = 1; f <= 6; f++) {
            int times = 0;
            for (int came : counts) times += came == f ? 1 : 0;
            Due.due("13: count of " + f + " in " + exp, x.count(6 + f), times);
        }
    }

    private static void findings() {
        failing("col 5[0]", 1, 1);
        failing("col 5[99]", 1, 1);
        failing("col 0[3]", 2, 2);
        failing("col 0[-1]", 2, 2);
        failing("col 1[2]", 2, 2);
        failing("col 1[1]", 3, 3);
        failing("col 4[0]", 3, 3);
        failing("col 5[1/0]", 5, 5);
        failing("1/0", 5, 5);
        failing("0/0", 5, 5);
        failing("fail 3", 6, 6);
        failing("fail fail 3", 6, 6);
        failing("fail (1/0)", 5, 5);
        failing("1/0+fail 1", 5, 5);
        failing("fail 1+1/0", 6, 6);
        failing("fail 1*1/0", 6, 6);
        failing("col 5[0]<1/0", 1, 1);
        failing("try fail 1 else 1/0", 5, 5, 6);
        failing("try try fail 1 else col 5[0] else 1/0", 5, 1, 5, 6);
        failing("if fail 1 then 1/0 else 1/0", 6, 6);
        failing("if 1 then 1/0 else fail 1", 5, 5);
        failing("(try fail 1 else 2)/0", 5, 5, 6);
        failing("(try 1 else 2)+fail 3", 6, 6);
        failing("(try try 1 else 2 else 3)+fail 3", 6, 6);
    }

    private static void fails() {
        AnswerSlices x = Due.of("die d=0 to 3;see 0<3-d;ask 6/d;ask d;");
        Due.board("15: by nought", x, x.fails(0, 5), 1, 3);
        Due.board("15: by nothing", x, x.fails(0, 1), 0, 1);
        Due.board("15: by size", x, x.fails(0, 4), 0, 1);
        Due.board("15: never", x, x.fails(1, 5), 0, 1);
        Due.board("14: of all that remain", x, x.odds(0, 6), 1, 3);
        Due.board("14: a failure is no value", x, x.odds(0, 5), 0, 1);
        for (int f : new int[] {0, 7, -1, Integer.MAX_VALUE, Integer.MIN_VALUE}) Due.due("15: f", x.fails(0, f), BAD);
        for (int q : OUTSIDE) Due.due("15: question", x.fails(q, 1), BAD);
        Due.due("15: none", Due.of("see 0;ask 1;").fails(0, 1), NONE);
    }

    private static void lets() {
        AnswerSlices x = Due.of("let a=1/0;let b=a;ask b;ask try a else 4;see 1+try b else 0;ask a+fail 1;");
        Due.board("15: a name that failed", x, x.fails(0, 5), 1, 1);
        Due.due("13: no finding more", x.count(11), 1);
        Due.due("13: left first", x.count(12), 0);
        Due.board("15: left first", x, x.fails(2, 5), 1, 1);
        Due.asked("17: try", x, x.value(1, 0), 4);
        AnswerSlices seen = Due.of("coin a=1 of 3;let b=1/a;see b;ask a;");
        Due.board("14: a see that fails cuts", seen, seen.odds(0, 1), 1, 1);
        Due.board("19: by it", seen, seen.cut(0), 2, 3);
        Due.due("13: once for each run and call", seen.count(11), 2);
        AnswerSlices later = Due.of("see 0;ask 1/0;let a=fail 1;see 1/0;");
        Due.due("20: cut", later.kept(), 0);
        Due.due("13: no more of it is worked", later.count(11) + later.count(12), 0);
    }

    private static void values() {
        AnswerSlices x = Due.of("die d=0 to 4;ask 6/(d-2);see d-4;ask 0-d*d;ask fail 1;");
        Due.due("16: values", x.values(0), 3);
        long[] rising = {-6, -3, 6};
        for (int i = 0; i < 3; i++) Due.asked("17: value " + i, x, x.value(0, i), rising[i]);
        Due.due("17: not so many", x.value(0, 3), NONE);
        Due.due("17: below 0", x.value(0, -1), NONE);
        Due.due("17: far", x.value(0, Integer.MAX_VALUE), NONE);
        Due.due("17: nothing changes", x.asked(), 6);
        Due.due("16: squares", x.values(1), 4);
        Due.asked("17: least", x, x.value(1, 0), -9);
        Due.asked("17: highest", x, x.value(1, 3), 0);
        Due.due("16: failures are none", x.values(2), 0);
        Due.due("17: failures are none", x.value(2, 0), NONE);
        for (int q : OUTSIDE) {
            Due.due("16: question", x.values(q), BAD);
            Due.due("17: question", x.value(q, 99), BAD);
        }
        AnswerSlices none = Due.of("ask 1;see 0;");
        Due.due("16: no run", none.values(0), 0);
        Due.due("17: no run", none.value(0, 0), NONE);
        AnswerSlices many = Due.of("die a=0 to 7;die b=0 to 7;ask a*8+b;");
        Due.due("16: 64", many.values(0), 64);
        Due.asked("17: the last", many, many.value(0, 63), 63);
    }

    private static void mean() {
        AnswerSlices x = Due.of("coin a=1 of 5;die d=0 to 2;ask if a then 10 else -d;ask 6/d;ask fail d;ask col 0[0];");
        Due.board("18: mean", x, x.mean(0), 6, 5);
        Due.board("18: of those that did not fail", x, x.mean(1), 9, 2);
        Due.due("18: none such", x.mean(2), NONE);
        Due.due("18: none such", x.mean(3), NONE);
        Due.onBoard("18: nothing changes", x, 9, 2);
        for (int q : OUTSIDE) Due.due("18: question", x.mean(q), BAD);
        Due.due("18: no run", Due.of("see 0;ask 1;").mean(0), NONE);
        AnswerSlices below = Due.of("die d=1 to 4;ask 0-d;");
        Due.board("18: below 0", below, below.mean(0), -5, 2);
        AnswerSlices far = data();
        Due.read(far, "coin a=6 of 12;coin b=6 of 12;coin c=6 of 12;coin d=6 of 12;coin e=6 of 12;coin f=6 of 12;"
            + "ask col 0[1];ask col 0[2];");
        Due.board("18: the least int", far, far.mean(0), Integer.MIN_VALUE, 1);
        Due.board("18: the highest int", far, far.mean(1), Integer.MAX_VALUE, 1);
    }

    private static void cut() {
        AnswerSlices x = Due.of("coin a=1 of 4;coin b=1 of 3;see a;ask b;see b;see a*b;");
        Due.board("19: first", x, x.cut(0), 3, 4);
        Due.board("19: second", x, x.cut(1), 1, 6);
        Due.board("19: cut once only", x, x.cut(2), 0, 1);
        for (int s : OUTSIDE) Due.due("19: see", x.cut(s), BAD);
        Due.due("19: see 3", x.cut(3), BAD);
        AnswerSlices all = Due.of("see 0;ask 1;");
        Due.board("19: all, though none remains", all, all.cut(0), 1, 1);
        Due.due("19: no see", Due.of("ask 1;").cut(0), BAD);
    }

    private static void kept() {
        AnswerSlices x = Due.of("coin a=1 of 4;die d=1 to 3;coin z=0 of 5;see a+d-1;");
        Due.due("20: runs", x.kept(), 5);
        Due.onBoard("20:", x, 3, 4);
        AnswerSlices all = Due.of("let a=1/0;");
        Due.due("20: one", all.kept(), 1);
        Due.onBoard("20:", all, 1, 1);
        AnswerSlices none = Due.of("coin a=1 of 4;see 0;");
        none.cut(0);
        Due.due("20: no run", none.kept(), 0);
        Due.onBoard("20: no run", none, 0, 1);
        Due.due("20: no text", new AnswerSlices().kept(), NONE);
    }

    private static void shown() {
        AnswerSlices x = Due.of("die d=5 to 7;coin a=1 of 4;coin z=0 of 5;see d+a-5;");
        long[][] want = {{5, 1, 0}, {6, 0, 0}, {6, 1, 0}, {7, 0, 0}, {7, 1, 0}};
        for (int k = 0; k < want.length; k++) {
            for (int d = 0; d < 3; d++) Due.asked("21: shown(" + k + ", " + d + ")", x, x.shown(k, d), want[k][d]);
        }
        Due.due("21: not so many", x.shown(5, 0), NONE);
        Due.due("21: below 0", x.shown(-1, 0), NONE);
        Due.due("21: least", x.shown(Integer.MIN_VALUE, 0), NONE);
        Due.due("21: nothing changes", x.asked(), 0);
        for (int d : OUTSIDE) Due.due("21: draw", x.shown(0, d), BAD);
        Due.due("21: draw 3", x.shown(99, 3), BAD);
        Due.due("21: no draws", Due.of("let a=1;").shown(0, 0), BAD);
    }

    private static void apart() {
        AnswerSlices x = Due.of("coin a=1 of 4;die d=0 to 2;ask a;ask d;ask 1/a;ask fail d;ask 6/d;ask a;");
        Due.board("22: of two", x, x.apart(0, 1), 5, 12);
        Due.board("22: the other way", x, x.apart(1, 0), 5, 12);
        Due.board("22: of itself", x, x.apart(2, 2), 0, 1);
        Due.board("22: the same odds", x, x.apart(0, 5), 0, 1);
        Due.board("22: values and findings", x, x.apart(0, 2), 3, 4);
        Due.board("22: other findings", x, x.apart(2, 3), 1, 1);
        Due.board("22: the same finding", x, x.apart(2, 4), 2, 3);
        for (int q : OUTSIDE) {
            Due.due("22: question", x.apart(q, 0), BAD);
            Due.due("22: other", x.apart(0, q), BAD);
        }
        Due.due("22: no run", Due.of("see 0;ask 1;").apart(0, 0), NONE);
    }

    /** 64 RUNS with 15 FINDINGS each: 960 a call. */
    private static void full() {
        String five = "try 1/0 else try 1/0 else try 1/0 else try 1/0 else 1/0;";
        String draws = "die d=0 to 7;die e=0 to 7;";
        AnswerSlices x = Due.of(draws + "let a=" + five + "let b=" + five + "see 1;ask " + five + "ask d;");
        Due.due("13: none yet", x.count(11), 0);
        for (int call = 1; call <= 4; call++) {
            Due.board("14: not full yet", x, x.odds(1, 0), 1, 8);
            Due.due("13: 960 more", x.count(11), 960 * call);
        }
        Due.due("14: full", x.odds(1, 0), FULL);
        Due.due("15: full", x.fails(0, 5), FULL);
        Due.due("16: full", x.values(1), FULL);
        Due.due("17: full", x.value(1, 0), FULL);
        Due.due("17: full, ahead of not so many", x.value(1, 99), FULL);
        Due.due("18: full", x.mean(1), FULL);
        Due.due("19: full", x.cut(0), FULL);
        Due.due("20: full", x.kept(), FULL);
        Due.due("21: full", x.shown(0, 0), FULL);
        Due.due("22: full", x.apart(0, 1), FULL);
        Due.due("25: full", x.same(1, 0), FULL);
        Due.due("26: full", x.worth(1, 0, 0), FULL);
        Due.due("14: BAD ahead of FULL", x.odds(2, 0), BAD);
        Due.due("21: BAD ahead of FULL", x.shown(0, 2), BAD);
        Due.due("13: nothing changes", x.count(11), 3840);
        Due.due("23: needs no run", x.needs(1, 0), 1);
        Due.due("24: needs no run", x.slice(1), 2);
        Due.due("32: clear", x.clear(), 7);
        Due.due("20: NONE ahead of FULL", x.kept(), NONE);
        Due.due("10: reads", Due.read(x, "coin a=1 of 2;ask a;"), 2);
        Due.due("14: still full", x.odds(0, 1), FULL);
        Due.due("27: full", x.sway(0, 1, 0, 1), FULL);
        Due.due("28: full", x.worst(0, 1, 0, 0, 1), FULL);
        Due.due("28: BAD ahead of FULL", x.worst(0, 1, 0, 1, 0), BAD);
    }

    private static void fullAt3000() {
        AnswerSlices x = Due.of("die d=1 to 5;die e=1 to 4;let a=1/0;let b=fail 1;let c=col 0[0];ask d;");
        for (int call = 1; call <= 49; call++) Due.due("14: not full", x.odds(0, 1), 1);
        Due.read(x, "ask 1/0;");
        for (int call = 1; call <= 60; call++) Due.due("15: not full, " + call, x.fails(0, 5), 1);
        Due.due("13: of three codes", x.count(7) + x.count(11) + x.count(12), 3000);
        Due.due("15: full", x.fails(0, 5), FULL);
    }

    /** What is asked of stands first in its text, or last. */
    private static void firstPlaces() {
        AnswerSlices x = Due.of("ask 4;see 1;coin a=1 of 2;die b=3 to 5;");
        Due.board("14: first", x, x.odds(0, 4), 1, 1);
        Due.board("15: first", x, x.fails(0, 1), 0, 1);
        Due.due("16: first", x.values(0), 1);
        Due.asked("17: first", x, x.value(0, 0), 4);
        Due.board("18: first", x, x.mean(0), 4, 1);
        Due.board("22: first", x, x.apart(0, 0), 0, 1);
        Due.due("23: first", x.needs(0, 0), 1);
        Due.due("24: first", x.slice(0), 1);
        Due.due("25: first", x.same(0, 4), 1);
        Due.board("26: first", x, x.worth(0, 4, 0), 0, 1);
        Due.board("27: first", x, x.sway(0, 4, 0, 2), 1, 1);
        Due.due("28: first", x.worst(0, 4, 0, 0, 2), 0);
        Due.due("20: all", x.kept(), 6);
        Due.asked("21: the first run", x, x.shown(0, 1), 3);
        Due.asked("21: the last run", x, x.shown(5, 1), 5);
        Due.asked("21: the last run", x, x.shown(5, 0), 1);
        Due.asked("21: the third run", x, x.shown(2, 0), 0);
        Due.asked("21: the fourth run", x, x.shown(3, 0), 1);
        AnswerSlices see = Due.of("see 0;ask 4;");
        Due.board("19: first", see, see.cut(0), 1, 1);
        Due.due("26: first", see.worth(0, 4, 0), NONE);
    }

    private static void sixteenStatements() {
        AnswerSlices x = Due.of("die a=1 to 8;die b=1 to 8;" + "ask a;".repeat(13) + "see b;");
        Due.due("20: 64 runs", x.kept(), 64);
        Due.asked("21: the last run", x, x.shown(63, 0), 8);
        Due.due("21: not so many", x.shown(64, 0), NONE);
        Due.board("14: the last question", x, x.odds(12, 8), 1, 8);
        Due.board("22: all alike", x, x.apart(0, 12), 0, 1);
        Due.due("23: the last statement", x.needs(0, 15), 0);
        Due.due("24: die and ask", x.slice(12), 2);
        Due.due("25: same", x.same(12, 8), 1);
        Due.board("26: nothing", x, x.worth(12, 8, 0), 0, 1);
        AnswerSlices only = Due.of("ask 1;".repeat(16));
        Due.board("14: the 16th question", only, only.odds(15, 1), 1, 1);
        Due.due("14: no 17th", only.odds(16, 1), BAD);
    }
}
