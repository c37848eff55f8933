/** "4 ODDS" and promises 14 to 32, at their edges. */
public final class OddsEdgesTest {
    private static final int NONE = -2;
    private static final int LEAST = Integer.MIN_VALUE, MOST = Integer.MAX_VALUE;

    public static void main(String[] args) {
        valueOrFinding();
        extremeValues();
        rising();
        notSoMany();
        means();
        sharesOfAll();
        apart();
        board();
        needsLongChains();
        needsSees();
        needsOwnAsk();
        worth();
        sway();
        worst();
        counts();
        digest();
        clear();
        Due.done("OddsEdgesTest");
    }

    /** COLUMN 0: the least int, the highest, -1, 0. */
    private static AnswerSlices data(String text) {
        AnswerSlices x = new AnswerSlices();
        x.row(0, 4, 4);
        x.put(0, 0, 4, LEAST);
        x.put(0, 1, 4, MOST);
        x.put(0, 2, 4, -1);
        if (Due.read(x, text) < 0) Due.due("read of " + text, x.fault(), 0);
        return x;
    }

    /** "ODDS .. are shares of MASS: of a value, of a FINDING by which it FAILED": these are never one. */
    private static void valueOrFinding() {
        AnswerSlices x = data("die d=1 to 6;ask d;ask if d=5 then 1/0 else d;ask col 1[0];ask col 0[4];ask fail 1;");
        for (int v = 1; v <= 6; v++) {
            Due.board("14: a value", x, x.odds(0, v), 1, 6);
            Due.board("15: a value is no FINDING", x, x.fails(0, v), 0, 1);
            Due.board("14: the one FAILED", x, x.odds(1, v), v == 5 ? 0 : 1, v == 5 ? 1 : 6);
            Due.board("15: by that", x, x.fails(1, v), v == 5 ? 1 : 0, v == 5 ? 6 : 1);
            Due.board("15: by NOTHING", x, x.fails(2, v), v == 1 ? 1 : 0, 1);
            Due.board("15: by BEYOND", x, x.fails(3, v), v == 2 ? 1 : 0, 1);
            Due.board("15: by RAISED", x, x.fails(4, v), v == 6 ? 1 : 0, 1);
            Due.board("14: no FINDING is a value", x, x.odds(4, v), 0, 1);
            Due.board("14: nor less 10", x, x.odds(4, -10 - v), 0, 1);
        }
    }

    private static void extremeValues() {
        AnswerSlices x = data("die d=0 to 3;ask col 0[d];");
        for (int v : new int[] {LEAST, MOST, -1, 0}) Due.board("14: " + v, x, x.odds(0, v), 1, 4);
        for (int v : new int[] {LEAST + 1, MOST - 1, 1, -2}) Due.board("14: " + v, x, x.odds(0, v), 0, 1);
        Due.due("25: same", x.same(0, LEAST), 1);
        AnswerSlices coin = data("coin c=1 of 4;ask col 0[c];see 1;");
        Due.board("26: worth", coin, coin.worth(0, LEAST, 0), 0, 1);
        Due.board("27: sway", coin, coin.sway(0, MOST, 0, 3), 3, 4);
        Due.due("28: worst", coin.worst(0, LEAST, 0, 0, 4), 4);
        Due.onBoard("28: worst", coin, 0, 1);
    }

    /** "The i-th of these, rising" */
    private static void rising() {
        AnswerSlices x = data("die d=0 to 3;ask col 0[d];ask 5;ask 0-d;ask 1/d;");
        Due.due("16: four", x.values(0), 4);
        int[] want = {LEAST, -1, 0, MOST};
        for (int i = 0; i < 4; i++) Due.asked("17: the " + i + "th", x, x.value(0, i), want[i]);
        Due.due("16: the same in all RUNS", x.values(1), 1);
        Due.asked("17: the same in all RUNS", x, x.value(1, 0), 5);
        for (int i = 0; i < 4; i++) Due.asked("17: falling as they came", x, x.value(2, i), i - 3);
        Due.due("16: those that did not FAIL", x.values(3), 2);
        Due.asked("17: those that did not FAIL", x, x.value(3, 0), 0);
        Due.asked("17: those that did not FAIL", x, x.value(3, 1), 1);
        AnswerSlices cut = Due.of("die d=1 to 6;ask d;see d=2+(4<d)*4;");
        Due.due("16: in RUNS that REMAIN", cut.values(0), 2);
        Due.asked("17: in RUNS that REMAIN", cut, cut.value(0, 0), 2);
        Due.asked("17: in RUNS that REMAIN", cut, cut.value(0, 1), 6);
        AnswerSlices down = Due.of("die a=0 to 7;die b=0 to 7;ask 63-a*8-b;");
        Due.due("16: as many as RUNS", down.values(0), 64);
        for (int i = 0; i < 64; i++) Due.asked("17: of 64", down, down.value(0, i), i);
    }

    /** "NONE: not so many" */
    private static void notSoMany() {
        AnswerSlices x = Due.of("die d=1 to 3;ask d;see d-2;");
        Due.asked("17: the last", x, x.value(0, 1), 3);
        Due.asked("21: the last", x, x.shown(1, 0), 3);
        for (int i : new int[] {2, 3, 63, 64, 65, MOST, -1, LEAST}) {
            Due.due("17: value " + i, x.value(0, i), NONE);
            Due.due("21: shown " + i, x.shown(i, 0), NONE);
        }
        Due.due("7: nothing is asked for", x.asked(), 3);
        AnswerSlices none = Due.of("die d=1 to 3;ask d;see 0;");
        Due.due("17: no RUN", none.value(0, 0), NONE);
        Due.due("21: no RUN", none.shown(0, 0), NONE);
        AnswerSlices failed = Due.of("die d=1 to 3;ask fail d;");
        Due.due("17: FAILED", failed.value(0, 0), NONE);
        Due.asked("21: REMAINS though it FAILED", failed, failed.shown(2, 0), 3);
        AnswerSlices one = Due.of("die d=9 to 9;");
        Due.asked("21: of one RUN", one, one.shown(0, 0), 9);
        Due.due("21: no second", one.shown(1, 0), NONE);
    }

    /** "by WEIGHTS, of RUNS that REMAIN in which it did not FAIL" */
    private static void means() {
        AnswerSlices x = data("coin c=1 of 4;ask c;ask col 0[c];ask 1/c;ask 1/(1-c);ask fail c;ask 0;ask 0-c*2;");
        Due.board("18: by WEIGHTS", x, x.mean(0), 1, 4);
        Due.board("18: far ones", x, x.mean(1), (3L * LEAST + MOST), 4);
        Due.board("18: it did not FAIL in one", x, x.mean(2), 1, 1);
        Due.board("18: nor in the other", x, x.mean(3), 1, 1);
        Due.due("18: FAILED in all", x.mean(4), NONE);
        Due.onBoard("18: nothing changes", x, 1, 1);
        Due.board("18: 0", x, x.mean(5), 0, 1);
        Due.board("18: below 0", x, x.mean(6), -1, 2);
        AnswerSlices cut = Due.of("die d=1 to 4;ask d;ask 6/(d-2);see d<4;see d-1;");
        Due.board("18: that REMAIN", cut, cut.mean(0), 5, 2);
        Due.board("18: that REMAIN and did not FAIL", cut, cut.mean(1), 6, 1);
        Due.due("18: none such", Due.of("coin c=0 of 4;ask 1/c;").mean(0), NONE);
        Due.due("18: no RUN REMAINS", Due.of("ask 1;see 0;").mean(0), NONE);
    }

    /** "what share of ALL is CUT by a SEE"; "what share of ALL REMAINS: how many RUNS" */
    private static void sharesOfAll() {
        AnswerSlices x = Due.of("coin a=1 of 3;coin b=1 of 5;coin z=0 of 7;see a;see b;see 1;");
        Due.board("19: of ALL", x, x.cut(0), 2, 3);
        Due.board("19: of ALL, not of what was left", x, x.cut(1), 4, 15);
        Due.board("19: nothing", x, x.cut(2), 0, 1);
        Due.due("20: one RUN", x.kept(), 1);
        Due.onBoard("20: of ALL", x, 1, 15);
        AnswerSlices none = Due.of("coin a=1 of 3;see a;see 1-a;");
        Due.board("19: first", none, none.cut(0), 2, 3);
        Due.board("19: second", none, none.cut(1), 1, 3);
        Due.due("20: no RUN", none.kept(), 0);
        Due.onBoard("20: nothing of ALL", none, 0, 1);
        AnswerSlices plain = Due.of("let a=1;");
        Due.due("20: without DRAWS", plain.kept(), 1);
        Due.onBoard("20: without DRAWS", plain, 1, 1);
        Due.due("20: all 64", Due.of("die a=1 to 8;die b=1 to 8;").kept(), 64);
    }

    /** "half the sum, over all values and FINDINGS" */
    private static void apart() {
        AnswerSlices x = Due.of("die d=1 to 4;ask d;ask 5;ask fail 1;ask 1/0;ask d+2;ask 5-d;ask 6;");
        Due.board("22: nothing alike", x, x.apart(0, 1), 1, 1);
        Due.board("22: a value and a FINDING", x, x.apart(1, 2), 1, 1);
        Due.board("22: a value and the FINDING of that number", x, x.apart(6, 2), 1, 1);
        Due.board("22: two FINDINGS", x, x.apart(2, 3), 1, 1);
        Due.board("22: half alike", x, x.apart(0, 4), 1, 2);
        Due.board("22: the other way", x, x.apart(4, 0), 1, 2);
        Due.board("22: the same ODDS in other RUNS", x, x.apart(0, 5), 0, 1);
        for (int q = 0; q < 7; q++) Due.board("22: itself", x, x.apart(q, q), 0, 1);
        AnswerSlices cut = Due.of("die d=0 to 3;ask d;ask 5;ask d/2;see d<2;ask 0;");
        Due.board("22: of RUNS that REMAIN", cut, cut.apart(0, 1), 1, 1);
        Due.board("22: of RUNS that REMAIN", cut, cut.apart(0, 2), 1, 2);
        Due.board("22: of RUNS that REMAIN", cut, cut.apart(2, 3), 0, 1);
        AnswerSlices weighed = Due.of("coin a=1 of 4;coin z=0 of 3;ask a;ask z;ask a-z;ask 1-a;");
        Due.board("22: by WEIGHTS", weighed, weighed.apart(0, 1), 1, 4);
        Due.board("22: by WEIGHTS", weighed, weighed.apart(0, 2), 0, 1);
        Due.board("22: by WEIGHTS", weighed, weighed.apart(0, 3), 1, 2);
    }

    /** "two numbers, above() and below() (0, 1 at first), in least terms, below() above 0" */
    private static void board() {
        AnswerSlices x = Due.of("die d=1 to 8;ask (d<5)*2;ask 0;ask 0-d;ask d<9;see 1;");
        Due.onBoard("29, 30: at first", x, 0, 1);
        Due.board("29, 30: least terms", x, x.odds(0, 2), 1, 2);
        Due.due("16: values", x.values(0), 2);
        Due.due("25: same", x.same(0, 7), 1);
        Due.due("17: value", x.value(0, 0), 1);
        Due.due("24: slice", x.slice(0), 2);
        x.digest();
        Due.onBoard("29, 30: not theirs", x, 1, 2);
        Due.board("29, 30: nothing is 0 of 1", x, x.odds(0, 7), 0, 1);
        Due.board("29, 30: all is 1 of 1", x, x.odds(3, 1), 1, 1);
        Due.board("29, 30: 0 is 0 of 1", x, x.mean(1), 0, 1);
        Due.board("29, 30: below 0", x, x.mean(2), -9, 2);
        Due.read(x, "ask 1;");
        Due.onBoard("29, 30: read() leaves it", x, -9, 2);
        x.clear();
        Due.onBoard("32: as at first", x, 0, 1);
    }

    private static void needing(String text, int question, String want) {
        AnswerSlices x = Due.of(text);
        StringBuilder got = new StringBuilder();
        int n = 0;
        for (int s = 0; s < x.count(0); s++) {
            got.append(x.needs(question, s));
            n += x.needs(question, s);
        }
        Due.due("23: " + text, got.toString(), want);
        Due.due("24: " + text, x.slice(question), n);
    }

    /** "And again, till nothing more comes." */
    private static void needsLongChains() {
        StringBuilder lets = new StringBuilder("let a=1;");
        for (char name = 'b'; name <= 'o'; name++) {
            lets.append("let ").append(name).append('=').append((char) (name - 1)).append(';');
        }
        needing(lets + "ask o;", 0, "1".repeat(16));
        needing(lets + "ask a;", 0, "1" + "0".repeat(14) + "1");
        needing(lets + "ask h;", 0, "1".repeat(8) + "0".repeat(7) + "1");
        String coins = "coin a=1 of 2;coin b=1 of 2;coin c=1 of 2;coin d=1 of 2;coin e=1 of 2;coin f=1 of 2;";
        needing(coins + "see a+b;see b+c;see c+d;see d+e;see e+f;ask a;ask 1;", 0, "1111111111110");
        needing(coins + "see e+f;see d+e;see c+d;see b+c;see a+b;ask f;ask 1;", 0, "1111111111110");
        needing(coins + "see a+b;see b+c;see d+e;see e+f;ask a;ask f;", 0, "1110001100" + "10");
        needing(coins + "see a+b;see b+c;see d+e;see e+f;ask a;ask f;", 1, "0001110011" + "01");
        needing("die d=1 to 1;let a=d;let b=a;let c=b;see c;let e=d;let f=e;ask f;", 0, "11111111");
    }

    /** "each SEE that has a DRAW .. that something that it NEEDS is or has" */
    private static void needsSees() {
        needing("coin a=1 of 2;see 0;see a;ask 1;", 0, "0001");
        needing("coin a=1 of 2;see 0;see a;ask a;", 0, "1011");
        needing("see 0;ask 1;", 0, "01");
        needing("let a=1;see a;ask a;", 0, "101");
        needing("coin a=1 of 2;ask a;see a;see a;", 0, "1111");
        needing("die a=1 to 2;let b=a;ask a;see b;", 0, "1111");
        needing("die a=1 to 2;let b=a;see a;ask b;", 0, "1111");
        needing("die a=1 to 2;let b=a;let c=a;see b;ask c;", 0, "11111");
        needing("coin a=1 of 2;coin b=1 of 2;let l=a;see if 0 then l else b;ask a;", 0, "11111");
        needing("coin a=1 of 2;coin b=1 of 2;see b;ask a;", 0, "1001");
        needing("coin a=1 of 2;let b=a*0;see b;ask b;", 0, "1111");
        needing("coin a=1 of 2;let b=4;see a+b;let c=b;ask c;", 0, "01011");
        needing("coin a=1 of 2;see try a else 1;ask col 0[a];", 0, "111");
    }

    /** "its own ask": no other one */
    private static void needsOwnAsk() {
        needing("coin a=1 of 2;ask a;ask a;ask a;", 0, "1100");
        needing("coin a=1 of 2;ask a;ask a;ask a;", 2, "1001");
        needing("ask 1;".repeat(16), 15, "0".repeat(15) + "1");
        needing("ask 1;".repeat(16), 0, "1" + "0".repeat(15));
        needing("ask 1;", 0, "1");
    }

    /** "ODDS .. as it is, less those without the SEE" */
    private static void worth() {
        AnswerSlices x = Due.of("die d=1 to 4;see d-1;see d<4;ask d;ask 9;");
        Due.board("26: the first", x, x.worth(0, 2, 0), 1, 6);
        Due.board("26: the last", x, x.worth(0, 2, 1), 1, 6);
        Due.board("26: what it CUTS", x, x.worth(0, 1, 0), -1, 3);
        Due.board("26: what never is", x, x.worth(0, 8, 0), 0, 1);
        Due.board("26: what is sure", x, x.worth(1, 9, 0), 0, 1);
        AnswerSlices all = Due.of("coin a=1 of 3;see a;ask a;");
        Due.board("26: of what was unlikely", all, all.worth(0, 1, 0), 2, 3);
        Due.board("26: of what is CUT", all, all.worth(0, 0, 0), -2, 3);
        AnswerSlices sure = Due.of("coin a=0 of 3;see 1;ask a;");
        Due.board("26: nothing", sure, sure.worth(0, 0, 0), 0, 1);
        AnswerSlices behind = Due.of("die d=1 to 3;see d-1;see d-1;ask d;");
        Due.board("26: the other CUTS it, too", behind, behind.worth(0, 2, 0), 0, 1);
        Due.due("26: NONE though some would REMAIN", Due.of("see 1;see 0;ask 1;").worth(0, 1, 1), NONE);
    }

    /** "if a DRAW, a coin, were a of its b": 0 .. b */
    private static void sway() {
        for (int a = 0; a <= 12; a++) {
            AnswerSlices x = Due.of("die d=1 to 2;coin c=5 of 12;ask c;");
            int common = common(a, 12);
            Due.board("27: " + a + " of 12", x, x.sway(0, 1, 1, a), a / common, 12 / common);
            Due.board("27: the text is as it was", x, x.odds(0, 1), 5, 12);
        }
        AnswerSlices one = Due.of("coin c=1 of 1;ask c;");
        Due.board("27: 0 of 1", one, one.sway(0, 1, 0, 0), 0, 1);
        Due.board("27: 1 of 1", one, one.sway(0, 1, 0, 1), 1, 1);
        AnswerSlices seen = Due.of("coin c=1 of 3;see c;ask c;");
        Due.due("27: no RUN REMAINS so", seen.sway(0, 1, 0, 0), NONE);
        Due.board("27: now one", seen, seen.sway(0, 1, 0, 3), 1, 1);
        AnswerSlices never = Due.of("coin c=0 of 3;see c;ask c;");
        Due.due("14: no RUN REMAINS", never.odds(0, 1), NONE);
        Due.board("27: but so", never, never.sway(0, 1, 0, 1), 1, 1);
    }

    private static int common(int a, int b) {
        return a == 0 ? b : common(b % a, a);
    }

    /** "the first with the least ODDS; THE BOARD has these" */
    private static void worst() {
        AnswerSlices x = Due.of("coin a=1 of 12;coin b=1 of 2;see a+b;ask a;ask b;ask 7;");
        Due.due("28: rising", x.worst(0, 1, 0, 8, 12), 8);
        Due.onBoard("28: rising", x, 4, 5);
        Due.due("28: falling", x.worst(1, 1, 0, 8, 12), 12);
        Due.onBoard("28: falling", x, 1, 2);
        Due.due("28: all alike: the first", x.worst(2, 7, 0, 3, 7), 3);
        Due.onBoard("28: all alike", x, 1, 1);
        Due.due("28: all 0: the first", x.worst(2, 8, 0, 3, 7), 3);
        Due.onBoard("28: all 0", x, 0, 1);
        AnswerSlices seen = Due.of("coin a=1 of 4;see a;ask a;ask 1-a;");
        Due.due("28: none by 0, so the next", seen.worst(0, 1, 0, 0, 4), 1);
        Due.onBoard("28: none by 0", seen, 1, 1);
        Due.due("28: none by 0, and what never is", seen.worst(1, 1, 0, 0, 4), 1);
        Due.onBoard("28: what never is", seen, 0, 1);
        Due.due("28: by none", seen.worst(0, 1, 0, 0, 0), NONE);
        AnswerSlices last = Due.of("coin a=1 of 4;see 1-a;ask a;");
        Due.due("28: none by 4", last.worst(0, 0, 0, 1, 4), 1);
        Due.due("28: by none", last.worst(0, 0, 0, 4, 4), NONE);
        Due.onBoard("28: nothing changes", last, 1, 1);
        AnswerSlices dip = Due.of("coin a=1 of 4;coin b=2 of 4;ask (a+b)*(2-a-b);");
        Due.due("28: alike on both sides", dip.worst(0, 1, 0, 0, 4), 0);
        AnswerSlices mid = Due.of("coin a=1 of 4;coin b=1 of 4;see a=b;ask a;");
        Due.due("28: 0 is the least", mid.worst(0, 1, 0, 0, 4), 0);
        Due.due("28: the least of three", mid.worst(0, 0, 0, 1, 3), 3);
        Due.onBoard("28: the least of three", mid, 1, 2);
    }

    /** "5 RUNS (1 without DRAWS; 0 without a text) .. 13 bytes of THE TAPE" */
    private static void counts() {
        AnswerSlices x = new AnswerSlices();
        for (int what = 0; what <= 13; what++) Due.due("13: at first " + what, x.count(what), 0);
        Due.read(x, "let a=1;");
        Due.due("13: without DRAWS", x.count(5), 1);
        Due.read(x, "die a=3 to 3;");
        Due.due("13: of one value", x.count(5), 1);
        Due.read(x, "coin a=0 of 1;");
        Due.due("13: of WEIGHT 0, too", x.count(5), 2);
        Due.read(x, "coin a=0 of 1;?");
        Due.due("13: of the text that stays", x.count(5), 2);
        Due.due("13: of the text that stays", x.count(6), 7);
        x.clear();
        Due.due("13: without a text", x.count(5), 0);
        for (int n = 1; n <= 8; n++) {
            x.type(0, n);
            Due.due("13: bytes of THE TAPE", x.count(13), n * (n + 1) / 2);
        }
        x.read();
        Due.due("13: THE TAPE is empty", x.count(13), 0);
    }

    private static long digestOf(long... told) {
        long h = 17;
        for (long v : told) h = 31 * h + v;
        return h;
    }

    private static void digest() {
        AnswerSlices x = new AnswerSlices();
        Due.due("31: no ROW, no text", x.digest(), digestOf(-2, -2, -2, -2, -2, -2));
        x.row(0, 5, 2);
        x.put(0, 0, 5, Long.MIN_VALUE);
        x.put(0, 1, 5, Long.MAX_VALUE);
        x.share(5, 0);
        x.row(2, 0, 0);
        x.row(3, 2, 1);
        x.put(3, 0, 2, -1);
        x.row(4, 0, 1);
        x.put(4, 0, 0, 256);
        long[] columns = {5, 2, 0, Long.MIN_VALUE, Long.MAX_VALUE, -2, 0, 0, 2, 2, 1, 3, 65535, 0, 1, 4, 1,
            5, 2, 0, Long.MIN_VALUE, Long.MAX_VALUE};
        Due.due("31: COLUMNS", x.digest(), digestOf(columns));
        Due.type(x, "ask 1;");
        Due.due("31: THE TAPE is no text", x.digest(), digestOf(columns));
        x.read();
        long h = digestOf(columns);
        for (char c : "ask 1;".toCharArray()) h = 31 * h + c;
        Due.due("31: the bytes of the text", x.digest(), h);
        Due.read(x, "ask 2;?");
        Due.due("31: it stays", x.digest(), h);
    }

    /** "All is as at first, but how often FINDINGS came in RUNS: how many statements there were." */
    private static void clear() {
        AnswerSlices x = new AnswerSlices();
        Due.due("32: a new object", x.clear(), 0);
        Due.due("32: a new object:", Due.state(x), Due.state(new AnswerSlices()));
        x.row(0, 4, 2);
        x.share(5, 0);
        x.put(0, 1, 4, 3);
        x.get(0, 1, 4);
        Due.read(x, "ask 1;".repeat(15) + "ask 1/0;");
        x.mean(0);
        Due.read(x, "?");
        Due.type(x, "ask");
        String findings = Due.findings(x);
        Due.due("32: sixteen", x.clear(), 16);
        Due.due("32: as at first:", Due.state(x).replace(findings, ""),
            Due.state(new AnswerSlices()).replace(Due.findings(new AnswerSlices()), ""));
        Due.due("32: FINDINGS:", Due.findings(x), "findings 0 0 0 0 1 0\n");
        Due.due("32: once more", x.clear(), 0);
        Due.due("10: the TAPE was emptied", Due.read(x, " 1;"), -101);
        Due.due("2: it goes on", x.row(0, 4, 2), 1);
        Due.asked("2: each 0", x, x.get(0, 1, 4), 0);
        Due.due("10: it goes on", Due.read(x, "ask 1/0;"), 1);
        Due.board("15: it goes on", x, x.fails(0, 5), 1, 1);
        Due.due("13: one more", x.count(11), 2);
    }
}
