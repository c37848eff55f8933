/** "3 RUNS" sentence by sentence: WEIGHTS, how RUNS are worked, FINDINGS, how often, and when it is FULL. */
public final class RunEdgesTest {
    private static final int NONE = -2, FULL = -3;
    private static final int LEAST = Integer.MIN_VALUE, MOST = Integer.MAX_VALUE;

    public static void main(String[] args) {
        order();
        weights();
        wrap();
        towardZero();
        nought();
        leftToRight();
        oneAlone();
        tries();
        failing();
        failedLets();
        cutting();
        weightZero();
        howOften();
        notOfRefusals();
        alsoOfNone();
        fullAt3000();
        beyond3000();
        byAllCodes();
        fewerRunsThanBefore();
        theLastCall();
        Due.done("RunEdgesTest");
    }

    /** COLUMN 0: the least int, the highest, -1; COLUMN 1: longs; COLUMN 2: none. */
    private static AnswerSlices data(String text) {
        AnswerSlices x = new AnswerSlices();
        x.row(0, 4, 3);
        x.put(0, 0, 4, LEAST);
        x.put(0, 1, 4, MOST);
        x.put(0, 2, 4, -1);
        x.row(1, 5, 1);
        if (Due.read(x, text) < 0) Due.due("read of " + text, x.fault(), 0);
        return x;
    }

    private static void is(String exp, long want) {
        AnswerSlices x = data("ask " + exp + ";");
        Due.asked("17: " + exp, x, x.value(0, 0), want);
        Due.board("14: " + exp, x, x.odds(0, (int) want), 1, 1);
    }

    /** The FINDING by which it FAILS, and all that came on the way, by their codes. */
    private static void fails(String exp, int by, String came) {
        AnswerSlices x = data("ask " + exp + ";");
        Due.board("15: " + exp, x, x.fails(0, by), 1, 1);
        Due.due("13: " + exp, Due.findings(x), "findings " + came + "\n");
    }

    /** "in order, the first DRAW's changing last" */
    private static void order() {
        AnswerSlices x = Due.of("die a=4 to 6;let l=a;coin b=1 of 2;see 1;die c=0 to 1;");
        for (int k = 0; k < 12; k++) {
            Due.asked("21: the first", x, x.shown(k, 0), 4 + k / 4);
            Due.asked("21: the second", x, x.shown(k, 1), k / 2 % 2);
            Due.asked("21: the third", x, x.shown(k, 2), k % 2);
        }
        Due.due("21: no more", x.shown(12, 0), NONE);
    }

    /** "of a where it is 1, of b less a where it is 0. ALL is the sum of all WEIGHTS." */
    private static void weights() {
        for (int b = 1; b <= 12; b++) {
            for (int a = 0; a <= b; a++) {
                AnswerSlices x = Due.of("coin c=" + a + " of " + b + ";ask c;see c;");
                int common = common(a, b);
                Due.due("20: RUNS", x.kept(), a > 0 ? 1 : 0);
                Due.onBoard("20: a of b", x, a / common, b / common);
                Due.board("19: the rest", x, x.cut(0), (b - a) / common(b - a, b), b / common(b - a, b));
            }
        }
        StringBuilder six = new StringBuilder();
        for (char name = 'a'; name <= 'f'; name++) six.append("coin ").append(name).append("=1 of 12;");
        AnswerSlices x = Due.of(six + "ask a*b*c*d*e*f;ask 1-(a+b+c+d+e+f<1);");
        Due.board("14: the least share", x, x.odds(0, 1), 1, 2985984);
        Due.board("14: all but one", x, x.odds(1, 0), 1771561, 2985984);
        Due.board("22: apart", x, x.apart(0, 1), (2985983 - 1771561) / 2, 2985984 / 2);
        AnswerSlices dice = Due.of("die a=1 to 8;die b=1 to 8;ask a*b;");
        Due.board("14: dice weigh alike", dice, dice.odds(0, 64), 1, 64);
    }

    private static int common(int a, int b) {
        return a == 0 ? b : common(b % a, a);
    }

    /** "in ints, which wrap; <, = give 1 or 0" */
    private static void wrap() {
        is("col 0[1]+1", LEAST);
        is("col 0[0]-1", MOST);
        is("0-col 0[0]", LEAST);
        is("-col 0[0]", LEAST);
        is("--col 0[0]", LEAST);
        is("-col 0[1]", LEAST + 1);
        is("col 0[1]*2", -2);
        is("col 0[0]*2", 0);
        is("col 0[0]*col 0[2]", LEAST);
        is("col 0[0]/col 0[2]", LEAST);
        is("col 0[0]/-1", LEAST);
        is("col 0[1]/-1", LEAST + 1);
        is("999999*999999", -729379967);
        is("col 0[0]<col 0[1]", 1);
        is("col 0[1]<col 0[0]", 0);
        is("col 0[0]<0", 1);
        is("col 0[0]<col 0[0]", 0);
        is("col 0[0]=col 0[1]+1", 1);
        is("col 0[0]=col 0[1]", 0);
        is("1<2", 1);
        is("2<1", 0);
        is("(1<2)+(1=1)", 2);
    }

    /** "/ is cut toward 0" */
    private static void towardZero() {
        is("7/2", 3);
        is("-7/2", -3);
        is("7/-2", -3);
        is("-7/-2", 3);
        is("1/2", 0);
        is("-1/2", 0);
        is("0/5", 0);
        is("6/3", 2);
        is("7/2*2", 6);
        is("7*2/3", 4);
    }

    /** "5 NOUGHT a share by 0" */
    private static void nought() {
        for (String of : new String[] {"0", "1", "-1", "col 0[0]", "col 0[1]"}) {
            fails(of + "/0", 5, "0 0 0 0 1 0");
            fails(of + "/(1-1)", 5, "0 0 0 0 1 0");
        }
        is("0*5", 0);
        fails("1/(1/2)", 5, "0 0 0 0 1 0");
    }

    /** "EXPS from left to right": the first that FAILS is what it FAILS by, and no more is worked. */
    private static void leftToRight() {
        String[] parts = {"col 2[0]", "col 0[3]", "col 1[0]", "(1/0)", "(fail 1)"};
        int[] codes = {1, 2, 3, 5, 6};
        String[] came = {"1 0 0 0 0 0", "0 1 0 0 0 0", "0 0 1 0 0 0", "0 0 0 0 1 0", "0 0 0 0 0 1"};
        for (int one = 0; one < parts.length; one++) {
            for (String other : parts) {
                for (String sign : new String[] {"+", "-", "*", "/", "<", "="}) {
                    fails(parts[one] + sign + other, codes[one], came[one]);
                }
            }
            fails("-" + parts[one], codes[one], came[one]);
            fails("fail " + parts[one], codes[one], came[one]);
            fails("col 2[" + parts[one] + "]", codes[one], came[one]);
            fails("if " + parts[one] + " then 1/0 else fail 1", codes[one], came[one]);
            fails("1+2*" + parts[one] + "<fail 1", codes[one], came[one]);
        }
    }

    /** "if it is not 0, the second alone, else the third alone" */
    private static void oneAlone() {
        for (String not0 : new String[] {"1", "-1", "2", "col 0[0]", "col 0[1]"}) {
            is("if " + not0 + " then 3 else fail 1", 3);
            fails("if " + not0 + " then 1/0 else fail 1", 5, "0 0 0 0 1 0");
        }
        is("if 0 then fail 1 else 4", 4);
        is("if 1-1 then fail 1 else 4", 4);
        fails("if 0 then 1/0 else fail 1", 6, "0 0 0 0 0 1");
        is("if 0 then 1 else if 0 then 2 else 3", 3);
        is("if if 1 then 0 else 1 then 5 else 6", 6);
    }

    /** "the first; if it FAILS, by what ever, the second"; "counted, also those in a try" */
    private static void tries() {
        String[] parts = {"col 2[0]", "col 0[3]", "col 1[0]", "1/0", "fail 1"};
        int[] codes = {1, 2, 3, 5, 6};
        for (int one = 0; one < parts.length; one++) {
            is("try " + parts[one] + " else 8", 8);
            AnswerSlices x = data("ask try " + parts[one] + " else 8;");
            x.odds(0, 8);
            Due.due("13: also those in a try", x.count(6 + codes[one]), 1);
            AnswerSlices let = data("let a=" + parts[one] + ";ask try a else 8;ask try a+1 else a;");
            Due.board("14: a NAME that FAILED", let, let.odds(0, 8), 1, 1);
            Due.board("15: in the second", let, let.fails(1, codes[one]), 1, 1);
            Due.due("13: once a call", let.count(6 + codes[one]), 2);
        }
        is("try 1 else fail 2", 1);
        fails("try fail 1 else fail 2", 6, "0 0 0 0 0 2");
        fails("try 1/0 else fail 2", 6, "0 0 0 0 1 1");
        is("try try try 1/0 else 1/0 else 1/0 else 7", 7);
        is("5*(try 2+fail 1 else 3)-1", 14);
        is("1+try 2+3*fail 1 else 4", 5);
        String eight = "try ".repeat(8) + "1/0" + " else 1/0".repeat(7) + " else 2";
        is(eight, 2);
    }

    /** "fail: its FACTOR, then it FAILS: RAISED" */
    private static void failing() {
        fails("fail 0", 6, "0 0 0 0 0 1");
        fails("fail fail fail 1", 6, "0 0 0 0 0 1");
        fails("fail (1/0)", 5, "0 0 0 0 1 0");
        fails("fail try 1/0 else 2", 6, "0 0 0 0 1 1");
        fails("fail 1/0", 6, "0 0 0 0 0 1");
        fails("-fail 1", 6, "0 0 0 0 0 1");
    }

    /** "then what has that NAME FAILS by the same (which is no FINDING more)" */
    private static void failedLets() {
        AnswerSlices x = data("let a=col 2[0];let b=a+1/0;let c=b;let d=if 0 then c else 1;ask c;ask d;ask 1/0+a;");
        Due.board("15: through lets", x, x.fails(0, 1), 1, 1);
        Due.due("13: no FINDING more", Due.findings(x), "findings 1 0 0 0 1 0\n");
        Due.board("14: not worked there", x, x.odds(1, 1), 1, 1);
        Due.board("15: what comes first", x, x.fails(2, 5), 1, 1);
        AnswerSlices some = Due.of("die d=0 to 2;let a=6/d;ask a;ask try a else 0;");
        Due.board("15: in the RUN where it FAILED alone", some, some.fails(0, 5), 1, 3);
        Due.board("14: in the others", some, some.odds(0, 6), 1, 3);
        Due.board("14: in the others", some, some.odds(0, 3), 1, 3);
    }

    /** "see: if it FAILS or is 0, the RUN is CUT by it: no more of it is worked" */
    private static void cutting() {
        for (String not0 : new String[] {"1", "-1", "2", "col 0[0]", "1<2"}) {
            Due.due("20: not CUT by " + not0, data("see " + not0 + ";ask 1;").kept(), 1);
        }
        for (String cut : new String[] {"0", "1-1", "2<1", "1/0", "fail 1", "col 2[0]", "col 0[3]", "col 1[0]"}) {
            AnswerSlices x = data("see 1;see " + cut + ";let a=fail 1;see fail 1;ask fail 1;see 0;");
            Due.due("20: CUT by " + cut, x.kept(), 0);
            Due.board("19: not by the one ahead", x, x.cut(0), 0, 1);
            Due.board("19: by it", x, x.cut(1), 1, 1);
            Due.board("19: not by one behind", x, x.cut(2), 0, 1);
            Due.due("13: no more is worked", x.count(12), cut.equals("fail 1") ? 4 : 0);
        }
        AnswerSlices let = Due.of("let a=1/0;see a;");
        Due.due("20: CUT by a NAME that FAILED", let.kept(), 0);
        AnswerSlices ahead = Due.of("coin a=1 of 3;ask 1/0;see a;");
        Due.board("15: worked ahead of it", ahead, ahead.fails(0, 5), 1, 1);
        Due.due("13: in the RUN that is CUT, too", ahead.count(11), 2);
    }

    /** "its WEIGHT is above 0"; "(RUNS of WEIGHT 0 are not worked.)" */
    private static void weightZero() {
        AnswerSlices x = Due.of("coin a=0 of 5;coin b=5 of 5;die d=1 to 2;ask 1/0;ask a*10+b;");
        Due.due("13: RUNS", x.count(5), 8);
        Due.due("20: two REMAIN", x.kept(), 2);
        Due.onBoard("20: all of ALL", x, 1, 1);
        Due.due("13: two are worked", x.count(11), 2);
        Due.due("16: one value", x.values(1), 1);
        Due.asked("17: that one", x, x.value(1, 0), 1);
        Due.asked("21: the first that REMAINS", x, x.shown(0, 1), 1);
        Due.asked("21: the second", x, x.shown(1, 2), 2);
        Due.due("21: no third", x.shown(2, 0), NONE);
        Due.board("18: mean", x, x.mean(1), 1, 1);
        Due.board("27: turned, all are worked", x, x.sway(1, 11, 0, 1), 1, 5);
        AnswerSlices turned = Due.of("coin a=0 of 2;ask 1/0;");
        turned.sway(0, 1, 0, 1);
        Due.due("13: of WEIGHT 0 no more", turned.count(11), 2);
        turned.sway(0, 1, 0, 2);
        Due.due("13: the other is of WEIGHT 0", turned.count(11), 3);
        turned.sway(0, 1, 0, 0);
        Due.due("13: as it is", turned.count(11), 4);
    }

    private static int times(AnswerSlices x, int before) {
        return x.count(11) - before;
    }

    /** "Calls marked (W) work all RUNS once, (W 2) twice"; worst() "once for each" */
    private static void howOften() {
        AnswerSlices x = Due.of("coin a=1 of 1;see 1;ask 1/0;ask 1;");
        int came = 0;
        int[] answers = {x.odds(0, 1), times(x, came), x.fails(0, 5), times(x, came), x.values(0), times(x, came),
            x.value(1, 0), times(x, came), x.mean(1), times(x, came), x.cut(0), times(x, came), x.kept(),
            times(x, came), x.shown(0, 0), times(x, came), x.apart(0, 1), times(x, came), x.same(0, 1),
            times(x, came), x.worth(0, 1, 0), times(x, came), x.sway(0, 1, 0, 0), times(x, came),
            x.worst(0, 1, 0, 0, 1), times(x, came), x.worst(0, 1, 0, 1, 1), times(x, came)};
        int[] want = {1, 1, 1, 2, 0, 3, 1, 4, 1, 5, 1, 6, 1, 7, 1, 8, 1, 9, 1, 11, 1, 13, 1, 14, 0, 16, 1, 17};
        for (int i = 0; i < want.length; i++) Due.due("13: answer " + i + " of once or twice", answers[i], want[i]);
        Due.due("23: works no RUN", x.needs(0, 0), 0);
        Due.due("24: works no RUN", x.slice(0), 1);
        x.statement(0, 0);
        x.digest();
        x.read();
        Due.due("13: no more came", x.count(11), 17);
    }

    /** "FINDINGS that came in RUNS are counted": those of refused calls are not. */
    private static void notOfRefusals() {
        AnswerSlices x = data("ask 1;");
        x.row(0, 4, -1);
        x.copy(0, 3);
        x.put(3, 0, 4, 1);
        x.get(0, 3, 4);
        x.get(0, 0, 0);
        x.about(3, 0);
        x.odds(0, 1);
        Due.due("13: none came", Due.findings(x), "findings 0 0 0 0 0 0\n");
    }

    /** FINDINGS came in RUNS also where the answer is NONE then. */
    private static void alsoOfNone() {
        AnswerSlices x = Due.of("coin a=1 of 1;ask 1/0;see 0;");
        int[] none = {x.odds(0, 1), x.fails(0, 5), x.value(0, 0), x.mean(0), x.shown(0, 0), x.apart(0, 0),
            x.sway(0, 1, 0, 1)};
        for (int answer : none) Due.due("14: NONE", answer, NONE);
        Due.due("13: seven times", x.count(11), 7);
        Due.due("25: NONE", x.same(0, 1), NONE);
        Due.due("13: and twice, the second time without the see", x.count(11), 9);
        Due.due("26: NONE", x.worth(0, 1, 0), NONE);
        Due.due("13: and twice", x.count(11), 11);
        Due.due("28: NONE", x.worst(0, 1, 0, 0, 1), NONE);
        Due.due("13: and once for each", x.count(11), 13);
        Due.due("18: NONE, of one that REMAINS", Due.of("ask 1/0;").mean(0), NONE);
    }

    /** "FULL .. when 3000 FINDINGS or more came in RUNS": not at 2999 */
    private static void fullAt3000() {
        AnswerSlices x = Due.withFindings(2999);
        String quiet = "coin a=1 of 3;die d=1 to 2;see a+d-1;ask d;ask a;";
        Due.read(x, quiet);
        Due.board("14: at 2999", x, x.odds(0, 2), 3, 4);
        Due.board("15: at 2999", x, x.fails(0, 5), 0, 1);
        Due.due("16: at 2999", x.values(0), 2);
        Due.asked("17: at 2999", x, x.value(0, 1), 2);
        Due.due("17: NONE at 2999", x.value(0, 2), NONE);
        Due.board("18: at 2999", x, x.mean(0), 7, 4);
        Due.board("19: at 2999", x, x.cut(0), 1, 3);
        Due.due("20: at 2999", x.kept(), 3);
        Due.asked("21: at 2999", x, x.shown(0, 1), 2);
        Due.board("22: at 2999", x, x.apart(0, 1), 3, 4);
        Due.due("25: at 2999", x.same(0, 2), 1);
        Due.board("26: at 2999", x, x.worth(0, 2, 0), 1, 4);
        Due.board("27: at 2999", x, x.sway(0, 2, 0, 0), 1, 1);
        Due.due("28: at 2999", x.worst(0, 2, 0, 0, 3), 3);
        Due.read(x, "ask 1/0;");
        Due.board("15: the 3000th", x, x.fails(0, 5), 1, 1);
        Due.due("13: 3000", x.count(11), 3000);
        Due.due("15: FULL", x.fails(0, 5), FULL);
        Due.read(x, quiet);
        Due.due("14: FULL", x.odds(0, 2), FULL);
        Due.due("13: still 3000", x.count(11), 3000);
        Due.due("32: clear", x.clear(), 5);
        Due.read(x, quiet);
        Due.due("32: all, but how often FINDINGS came", x.odds(0, 2), FULL);
    }

    /** A call that begins below 3000 is worked to its end. */
    private static void beyond3000() {
        AnswerSlices x = Due.withFindings(2999);
        Due.read(x, "die d=1 to 8;ask 1/0;");
        Due.board("15: begun at 2999", x, x.fails(0, 5), 1, 1);
        Due.due("13: 8 more", x.count(11), 3007);
        Due.due("15: FULL", x.fails(0, 5), FULL);
        AnswerSlices twice = Due.withFindings(2999);
        Due.read(twice, "ask 1/0;");
        Due.due("25: the second time, too", twice.same(0, 1), 1);
        Due.due("13: 2 more", twice.count(11), 3001);
        AnswerSlices without = Due.withFindings(2999);
        Due.read(without, "see 1;ask 1/0;");
        Due.board("26: the second time, too", without, without.worth(0, 1, 0), 0, 1);
        Due.due("13: 2 more", without.count(11), 3001);
        AnswerSlices each = Due.withFindings(2999);
        Due.read(each, "coin a=1 of 2;ask a;ask 1/0;");
        Due.due("28: for each", each.worst(0, 1, 0, 0, 2), 0);
        Due.due("13: 1, 2 and 1 more", each.count(11), 3003);
    }

    /** All codes together are 3000. */
    private static void byAllCodes() {
        AnswerSlices x = data("die d=1 to 8;die e=1 to 5;let a=col 2[0];let b=col 0[3];let c=col 1[0];let f=1/0;"
            + "let g=fail 1;ask d;");
        for (int call = 0; call < 15; call++) Due.due("14: below 3000", x.odds(0, 1), 1);
        Due.due("13: 600 of each", Due.findings(x), "findings 600 600 600 0 600 600\n");
        Due.due("14: 3000", x.odds(0, 1), FULL);
    }

    /** Of RUNS of a longer text, and of those of other WEIGHTS, nothing is left. */
    private static void fewerRunsThanBefore() {
        AnswerSlices x = Due.of("die a=1 to 8;die b=1 to 8;ask a;see a=b;");
        Due.board("19: 64 RUNS", x, x.cut(0), 7, 8);
        Due.due("20: 64 RUNS", x.kept(), 8);
        for (String few : new String[] {"ask 1;see 1;", "coin c=1 of 2;ask c;see c<2;", "die e=1 to 3;ask e;see e;"}) {
            Due.read(x, few);
            int runs = x.count(5);
            Due.due("20: all of them", x.kept(), runs);
            Due.onBoard("20: all of them", x, 1, 1);
            Due.board("19: none", x, x.cut(0), 0, 1);
            Due.due("16: values", x.values(0), runs);
            Due.board("22: none", x, x.apart(0, 0), 0, 1);
            Due.due("25: same", x.same(0, 1), 1);
        }
        AnswerSlices cut = Due.of("die a=1 to 8;die b=1 to 8;see 0;");
        cut.kept();
        Due.read(cut, "coin a=1 of 2;see a;");
        Due.board("19: of ALL of these", cut, cut.cut(0), 1, 2);
    }

    /** "An object is used for at most 512 calls": the last is as good as the first. */
    private static void theLastCall() {
        AnswerSlices x = new AnswerSlices();
        x.type(0x61736b203420L, 6);
        x.type(0x3b, 1);
        x.read();
        for (int call = 4; call <= 509; call++) {
            if (call % 3 == 0) Due.due("2: row, call " + call, x.row(call % 6, call % 8, 20), 1);
            else if (call % 3 == 1) Due.due("4: copy, call " + call, x.copy(1, 0), call < 6 ? -11 : 20);
            else Due.due("14: odds, call " + call, x.odds(0, 4), 1);
        }
        Due.due("17: the 510th", x.value(0, 0), 1);
        Due.due("7: the 511th", x.asked(), 4);
        Due.due("32: the 512th", x.clear(), 1);
    }
}
