/** Promises 23 to 32: needs, slice, same, worth, sway, worst, above, below, digest, clear. */
public final class RestsTest {
    private static final int BAD = -1, NONE = -2;
    private static final int[] OUTSIDE = {-1, 9, Integer.MIN_VALUE, Integer.MAX_VALUE};

    public static void main(String[] args) {
        needs();
        same();
        sameWorksTwice();
        sameWorksNeededDraws();
        worth();
        sway();
        worst();
        digest();
        clear();
        Due.done("RestsTest");
    }

    private static void needing(String text, int question, String want) {
        AnswerSlices x = Due.of(text);
        int n = 0;
        for (int s = 0; s < want.length(); s++) {
            int due = want.charAt(s) - '0';
            Due.due("23: needs(" + question + ", " + s + ") of " + text, x.needs(question, s), due);
            n += due;
        }
        Due.due("24: slice(" + question + ") of " + text, x.slice(question), n);
        Due.due("23: no statement", x.needs(question, want.length()), BAD);
    }

    private static void needs() {
        needing("ask 1;", 0, "1");
        needing("coin a=1 of 2;coin b=1 of 2;ask b;", 0, "011");
        needing("coin a=1 of 2;see a;ask 1;", 0, "001");
        needing("coin a=1 of 2;see a;ask a;", 0, "111");
        needing("coin a=1 of 2;ask a;see a;", 0, "111");
        needing("see 0;ask 1;", 0, "01");
        needing("let a=1;see a;ask a;", 0, "101");
        needing("coin a=1 of 2;let b=a;let c=b;see c;ask a;", 0, "11111");
        needing("coin a=1 of 2;let b=a;let c=b;see c;ask b;", 0, "11111");
        needing("coin a=1 of 2;let b=a;let c=a;see a;ask b;", 0, "11011");
        needing("coin a=1 of 2;coin b=1 of 2;coin c=1 of 2;see a+b;see b+c;ask a;ask 3;", 0, "1111110");
        needing("coin a=1 of 2;coin b=1 of 2;coin c=1 of 2;see a+b;see b+c;ask a;ask 3;", 1, "0000001");
        needing("coin a=1 of 2;coin b=1 of 2;coin c=1 of 2;see a+c;see b;ask a;", 0, "101101");
        needing("coin a=1 of 2;ask if 0 then a else 1;", 0, "11");
        needing("coin a=1 of 2;let b=try 1 else col 0[a];ask b;", 0, "111");
        needing("coin a=1 of 2;let b=3;see a+b;ask a;", 0, "1111");
        needing("coin a=1 of 2;let b=3;see a;ask b;", 0, "0101");
        needing("coin a=1 of 2;ask a;ask a;ask a;", 1, "1010");
        needing("let a=1;let b=a;let c=b;let d=c;let e=d;let f=e;ask f;ask c;", 1, "11100001");
        AnswerSlices x = Due.of("ask 1;");
        for (int v : OUTSIDE) {
            Due.due("23: question", x.needs(v, 0), BAD);
            Due.due("23: statement", x.needs(0, v), BAD);
            Due.due("24: question", x.slice(v), BAD);
        }
        Due.due("23: no text", new AnswerSlices().needs(0, 0), BAD);
        Due.due("24: no text", new AnswerSlices().slice(0), BAD);
    }

    private static void same() {
        AnswerSlices x = Due.of("coin a=1 of 3;die d=1 to 4;see a;see d-1;ask d;ask 5;");
        Due.due("25: same", x.same(0, 2), 1);
        Due.due("25: never", x.same(0, 1), 1);
        Due.due("25: not told of the draws", x.same(1, 5), 1);
        Due.onBoard("25: the board stays", x, 0, 1);
        for (int q : OUTSIDE) Due.due("25: question", x.same(q, 0), BAD);
        AnswerSlices cut = Due.of("see 0;ask 1;");
        Due.due("25: no run as it is", cut.same(0, 1), NONE);
        AnswerSlices both = Due.of("coin a=1 of 2;see a*0;ask a;");
        Due.due("25: no run in both", both.same(0, 1), NONE);
        AnswerSlices fails = new AnswerSlices();
        fails.row(0, 4, 2);
        fails.put(0, 1, 4, 1);
        Due.read(fails, "coin a=1 of 3;see col 0[a];ask a;ask 1;");
        Due.due("25: data", fails.same(0, 1), 1);
        Due.due("25: data", fails.same(1, 1), 1);
    }

    private static void sameWorksTwice() {
        AnswerSlices x = Due.of("coin a=1 of 2;let b=1/0;ask 1;ask fail 1;");
        Due.due("25: same", x.same(0, 1), 1);
        Due.due("13: of a let that is not needed", x.count(11), 2);
        Due.due("13: of an ask that is not needed", x.count(12), 2);
        Due.due("25: same", x.same(1, 1), 1);
        Due.due("13: of its own, two runs and one", x.count(12), 5);
        Due.due("13: of the let", x.count(11), 4);
        AnswerSlices w = Due.of("coin a=1 of 2;see a;ask fail 1;");
        w.worth(0, 1, 0);
        Due.due("13: one run, then two", w.count(12), 3);
    }

    /** The second time, RUNS are those of the DRAWS that are needed. */
    private static void sameWorksNeededDraws() {
        AnswerSlices none = Due.of("coin a=1 of 2;ask 1/0;");
        Due.due("25: same", none.same(0, 0), 1);
        Due.due("13: two runs, then one", none.count(11), 3);
        AnswerSlices some = Due.of("die d=1 to 3;coin a=1 of 5;die e=1 to 4;see a;ask d/0;ask (d=2)/(a-a);");
        Due.due("25: of a die alone", some.same(0, 1), 1);
        Due.due("13: 12 runs of two asks, then 3", some.count(11), 27);
        Due.due("25: of a die and a coin", some.same(1, 1), 1);
        Due.due("13: 12 runs of two asks, then 3 that are not cut", some.count(11), 54);
        Due.asked("21: all draws again", some, some.shown(11, 2), 4);
        Due.asked("21: all draws again", some, some.shown(4, 0), 2);
        Due.due("13: RUNS of the text", some.count(5), 24);
        AnswerSlices odd = Due.of("die e=1 to 2;die d=1 to 3;coin z=0 of 3;coin a=2 of 5;see d-a-2;ask d-a;ask e;");
        for (int v = -1; v <= 3; v++) Due.due("25: same, " + v, odd.same(0, v), 1);
        Due.due("25: same", odd.same(1, 2), 1);
        AnswerSlices never = Due.of("coin a=0 of 2;coin b=2 of 2;ask b/0;");
        Due.due("25: same", never.same(0, 1), 1);
        Due.due("13: one run each time", never.count(11), 2);
    }

    private static void worth() {
        AnswerSlices x = Due.of("coin a=1 of 4;die d=1 to 6;see a+(3<d);see d-6;ask a;ask d;");
        Due.board("26: of the first", x, x.worth(0, 1, 0), 9, 44);
        Due.board("26: none to the other", x, x.worth(1, 6, 0), 0, 1);
        Due.board("26: below 0", x, x.worth(1, 6, 1), -4, 15);
        for (int v : OUTSIDE) {
            Due.due("26: question", x.worth(v, 0, 0), BAD);
            Due.due("26: see", x.worth(0, 0, v), BAD);
        }
        Due.due("26: see 2", x.worth(0, 0, 2), BAD);
        Due.onBoard("26: nothing changes", x, -4, 15);
        AnswerSlices none = Due.of("coin a=1 of 4;see 0;ask a;");
        Due.due("26: no run as it is", none.worth(0, 1, 0), NONE);
        AnswerSlices fails = Due.of("coin a=1 of 4;see 1/a;ask a;");
        Due.board("26: a see that fails", fails, fails.worth(0, 1, 0), 3, 4);
    }

    private static void sway() {
        AnswerSlices x = Due.of("coin a=1 of 4;coin b=1 of 2;die d=1 to 2;see a+b;ask a;");
        Due.board("27: as it is", x, x.sway(0, 1, 0, 1), 2, 5);
        Due.board("27: 0 of 4", x, x.sway(0, 1, 0, 0), 0, 1);
        Due.board("27: 4 of 4", x, x.sway(0, 1, 0, 4), 1, 1);
        Due.board("27: 2 of 4", x, x.sway(0, 1, 0, 2), 2, 3);
        Due.board("27: the other coin", x, x.sway(0, 1, 1, 0), 1, 1);
        Due.board("14: the text stays", x, x.odds(0, 1), 2, 5);
        Due.due("12: the text stays", x.statement(0, 3), 1);
        Due.due("27: a die", x.sway(0, 1, 2, 1), BAD);
        Due.due("27: a above b", x.sway(0, 1, 0, 5), BAD);
        Due.due("27: a above b", x.sway(0, 1, 1, 3), BAD);
        Due.due("27: a below 0", x.sway(0, 1, 0, -1), BAD);
        for (int v : OUTSIDE) {
            Due.due("27: question", x.sway(v, 1, 0, 1), BAD);
            Due.due("27: draw", x.sway(0, 1, v, 1), BAD);
            Due.due("27: a", x.sway(0, 1, 0, v), BAD);
        }
        AnswerSlices seen = Due.of("coin a=0 of 4;see a;ask 1/0;");
        Due.due("27: no run so", seen.sway(0, 1, 0, 0), NONE);
        Due.due("13: not worked", seen.count(11), 0);
        Due.board("27: now some", seen, seen.sway(0, 1, 0, 1), 0, 1);
        Due.due("13: worked", seen.count(11), 1);
    }

    private static void worst() {
        AnswerSlices x = Due.of("coin a=1 of 6;die d=1 to 2;ask a;ask 1-a;ask d;");
        Due.due("28: rising odds", x.worst(0, 1, 0, 2, 6), 2);
        Due.onBoard("28:", x, 1, 3);
        Due.due("28: falling odds", x.worst(1, 1, 0, 0, 4), 4);
        Due.onBoard("28:", x, 1, 3);
        Due.due("28: the first of the same", x.worst(2, 1, 0, 1, 5), 1);
        Due.onBoard("28:", x, 1, 2);
        Due.due("28: one", x.worst(0, 1, 0, 6, 6), 6);
        Due.onBoard("28:", x, 1, 1);
        Due.due("28: too far", x.worst(0, 1, 0, 0, 5), BAD);
        Due.due("28: high below low", x.worst(0, 1, 0, 3, 2), BAD);
        Due.due("28: high above b", x.worst(0, 1, 0, 4, 7), BAD);
        Due.due("28: low below 0", x.worst(0, 1, 0, -1, 2), BAD);
        Due.due("28: a die", x.worst(0, 1, 1, 1, 1), BAD);
        for (int v : OUTSIDE) {
            Due.due("28: question", x.worst(v, 1, 0, 1, 1), BAD);
            Due.due("28: draw", x.worst(0, 1, v, 1, 1), BAD);
            Due.due("28: low", x.worst(0, 1, 0, v, 1), BAD);
            Due.due("28: high", x.worst(0, 1, 0, 1, v), BAD);
        }
        Due.onBoard("28: nothing changes", x, 1, 1);
        AnswerSlices seen = Due.of("coin a=1 of 4;see a;ask a;ask fail 1;");
        Due.due("28: none by 0, so the next", seen.worst(0, 1, 0, 0, 4), 1);
        Due.onBoard("28:", seen, 1, 1);
        Due.due("13: once for each", seen.count(12), 4);
        Due.due("28: by none", seen.worst(0, 1, 0, 0, 0), NONE);
        Due.due("28: a value that never is", seen.worst(0, 3, 0, 0, 1), 1);
        Due.onBoard("28:", seen, 0, 1);
    }

    private static void digest() {
        AnswerSlices x = new AnswerSlices();
        x.row(1, 2, 2);
        x.put(1, 1, 2, -1);
        x.row(3, 0, 0);
        x.share(4, 1);
        x.row(5, 6, 1);
        x.put(5, 0, 5, 16777217);
        Due.read(x, "ask 1; ");
        Due.type(x, "not of the text");
        x.odds(0, 1);
        long h = 17;
        long[] told = {-2, 2, 2, 1, 0, 65535, -2, 0, 0, 3, 2, 2, 1, 0, 65535, 6, 1, 5, 16777216,
            'a', 's', 'k', ' ', '1', ';', ' '};
        for (long v : told) h = 31 * h + v;
        Due.due("31: digest()", x.digest(), h);
        Due.due("31: again", x.digest(), h);
    }

    private static void clear() {
        AnswerSlices x = new AnswerSlices();
        Due.due("32: nothing", x.clear(), 0);
        long first = x.digest();
        x.row(2, 4, 3);
        x.put(2, 0, 4, 8);
        x.share(0, 2);
        x.copy(5, 2);
        Due.read(x, "coin a=1 of 3;let b=1/0;see 1;ask a;ask fail a;");
        Due.asked("6: get", x, x.get(2, 0, 4), 8);
        Due.board("14: odds", x, x.odds(0, 1), 1, 3);
        Due.read(x, "ask ?");
        Due.type(x, "rest");
        Due.due("32: clear", x.clear(), 5);
        Due.due("32: digest()", x.digest(), first);
        Due.due("32: asked()", x.asked(), 0);
        Due.due("32: fault()", x.fault(), 0);
        Due.onBoard("32:", x, 0, 1);
        for (int what = 0; what <= 13; what++) {
            Due.due("32: count(" + what + ")", x.count(what), what == 11 || what == 12 ? 2 : 0);
        }
        Due.due("32: no question", x.odds(0, 1), BAD);
        Due.due("32: no statement", x.statement(0, 0), BAD);
        Due.due("32: the tape is empty", Due.read(x, "ask 4;"), 1);
        Due.asked("32: it goes on", x, x.value(0, 0), 4);
        Due.due("32: again", x.clear(), 1);
    }
}
