/** Promises 1 to 8: a new object, row, share, copy, put, get, asked, about. */
public final class ColumnsTest {
    private static final int BAD = -1, NONE = -2, NOTHING = -11, BEYOND = -12, CAST = -13, SIZE = -14;
    private static final int[] OUTSIDE = {-1, 6, Integer.MIN_VALUE, Integer.MAX_VALUE};

    public static void main(String[] args) {
        newObject();
        row();
        share();
        copy();
        putAndGet();
        widening();
        conversions();
        refusals();
        about();
        Due.done("ColumnsTest");
    }

    private static void newObject() {
        AnswerSlices x = new AnswerSlices();
        for (int c = 0; c < 6; c++) Due.due("1: about(" + c + ", 0)", x.about(c, 0), NOTHING);
        for (int what = 0; what <= 13; what++) Due.due("1: count(" + what + ")", x.count(what), 0);
        Due.due("1: asked()", x.asked(), 0);
        Due.due("1: fault()", x.fault(), 0);
        Due.due("1: kept()", x.kept(), NONE);
        Due.due("1: odds(0, 0)", x.odds(0, 0), BAD);
        Due.onBoard("1:", x, 0, 1);
        long h = 17;
        for (int c = 0; c < 6; c++) h = 31 * h - 2;
        Due.due("1: digest()", x.digest(), h);
    }

    private static void row() {
        AnswerSlices x = new AnswerSlices();
        for (int kind = 0; kind < 8; kind++) {
            Due.due("2: row(5, kind, 20)", x.row(5, kind, 20), 1);
            Due.due("2: about kind", x.about(5, 0), kind);
            Due.due("2: about cells", x.about(5, 1), 20);
            Due.asked("2: each is 0", x, x.get(5, 19, kind), 0);
        }
        Due.due("2: row(0, 4, 0)", x.row(0, 4, 0), 1);
        Due.due("2: no cells", x.about(0, 1), 0);
        Due.due("2: no such cell", x.get(0, 0, 4), BEYOND);
        x.row(1, 4, 3);
        x.put(1, 2, 4, 9);
        Due.due("2: n above 20", x.row(1, 4, 21), BAD);
        Due.due("2: n below 0", x.row(1, 4, -1), SIZE);
        Due.due("2: least n", x.row(1, 4, Integer.MIN_VALUE), SIZE);
        Due.due("2: kind 8", x.row(1, 8, 1), BAD);
        Due.due("2: kind -1", x.row(1, -1, 1), BAD);
        Due.due("2: BAD ahead of SIZE", x.row(1, 8, -1), BAD);
        for (int c : OUTSIDE) {
            Due.due("2: column " + c, x.row(c, 4, 1), BAD);
            Due.due("2: none of column " + c, x.row(c, NONE, 1), BAD);
        }
        Due.asked("2: refused, nothing changes", x, x.get(1, 2, 4), 9);
        Due.due("2: a new row", x.row(1, 4, 3), 1);
        Due.asked("2: the new row is 0", x, x.get(1, 2, 4), 0);
        Due.due("2: none", x.row(1, NONE, -7), 1);
        Due.due("2: it has none", x.about(1, 1), NOTHING);
        Due.due("2: none again", x.row(1, NONE, 99), 1);
    }

    private static void share() {
        AnswerSlices x = new AnswerSlices();
        Due.due("3: none and none", x.share(0, 1), 0);
        x.row(1, 4, 2);
        Due.due("3: share", x.share(0, 1), 1);
        Due.due("3: it had", x.share(0, 1), 0);
        Due.due("3: with itself", x.share(0, 0), 0);
        x.put(0, 1, 4, 77);
        Due.asked("3: the very same", x, x.get(1, 1, 4), 77);
        x.row(2, 4, 2);
        x.put(2, 1, 4, 77);
        Due.due("3: alike is not the same", x.share(2, 3), 1);
        Due.due("3: it has none now", x.about(2, 0), NOTHING);
        x.row(1, 5, 1);
        Due.due("3: the other keeps its row", x.about(0, 0), 4);
        for (int c : OUTSIDE) {
            Due.due("3: column", x.share(c, 0), BAD);
            Due.due("3: other", x.share(0, c), BAD);
        }
    }

    private static void copy() {
        AnswerSlices x = new AnswerSlices();
        x.row(1, 2, 3);
        x.put(1, 0, 2, 65);
        Due.due("4: copy", x.copy(4, 1), 3);
        Due.due("4: kind", x.about(4, 0), 2);
        Due.asked("4: as the other", x, x.get(4, 0, 2), 65);
        x.put(4, 0, 2, 66);
        Due.asked("4: a new row", x, x.get(1, 0, 2), 65);
        Due.due("4: another row", x.about(4, 2), 4);
        x.share(0, 1);
        Due.due("4: of itself", x.copy(0, 0), 3);
        Due.due("4: of itself, new", x.about(0, 2), 0);
        Due.due("4: the sharer's", x.about(1, 2), 1);
        x.row(2, 0, 0);
        Due.due("4: no cells", x.copy(3, 2), 0);
        Due.due("4: nothing", x.copy(1, 5), NOTHING);
        Due.due("4: nothing changes", x.about(1, 1), 3);
        for (int c : OUTSIDE) {
            Due.due("4: column", x.copy(c, 5), BAD);
            Due.due("4: other", x.copy(0, c), BAD);
        }
    }

    private static void putAndGet() {
        AnswerSlices x = new AnswerSlices();
        x.row(0, 5, 3);
        Due.due("5: put", x.put(0, 2, 5, Long.MIN_VALUE), 1);
        Due.asked("6: get", x, x.get(0, 2, 5), Long.MIN_VALUE);
        Due.asked("6: another cell", x, x.get(0, 1, 5), 0);
        x.get(0, 2, 5);
        Due.due("6: refused", x.get(0, 3, 5), BEYOND);
        Due.due("7: the last that answered 1", x.asked(), Long.MIN_VALUE);
        Due.due("7: again", x.asked(), Long.MIN_VALUE);
    }

    /** Which SORTS go into, and come out of, which KINDS. */
    private static void widening() {
        String[] widens = {"0", "134567", "24567", "34567", "4567", "567", "67", "7"};
        for (int from = 0; from < 8; from++) {
            for (int to = 0; to < 8; to++) {
                boolean fine = widens[from].indexOf('0' + to) >= 0;
                AnswerSlices x = new AnswerSlices();
                x.row(0, to, 1);
                Due.due("5: sort " + from + " into kind " + to, x.put(0, 0, from, 1), fine ? 1 : CAST);
                x.row(0, from, 1);
                x.put(0, 0, from, 1);
                Due.due("6: kind " + from + " as sort " + to, x.get(0, 0, to), fine ? 1 : CAST);
                Due.due("7: asked()", x.asked(), fine ? 1 : 0);
            }
        }
    }

    private static void through(int sort, int kind, int as, long v, long want) {
        AnswerSlices x = new AnswerSlices();
        x.row(0, kind, 1);
        String what = sort + " in " + kind + " as " + as + ": " + v;
        Due.due("5: " + what, x.put(0, 0, sort, v), 1);
        Due.asked("6: " + what, x, x.get(0, 0, as), want);
    }

    private static void conversions() {
        through(0, 0, 0, 256, 1);
        through(0, 0, 0, Long.MIN_VALUE, 1);
        through(0, 0, 0, 0, 0);
        through(1, 1, 1, 128, -128);
        through(1, 3, 7, 511, -1);
        through(2, 2, 2, -1, 65535);
        through(2, 4, 5, 65536 + 97, 97);
        through(2, 2, 6, -1, 65535);
        through(3, 3, 3, 32768, -32768);
        through(3, 5, 7, 65535, -1);
        through(4, 4, 4, 1L << 31, Integer.MIN_VALUE);
        through(4, 6, 6, 16777217, 16777216);
        through(4, 4, 6, 16777217, 16777216);
        through(4, 4, 7, 16777217, 16777217);
        through(5, 5, 5, Long.MAX_VALUE, Long.MAX_VALUE);
        through(5, 7, 7, (1L << 53) + 1, 1L << 53);
        through(5, 5, 7, (1L << 53) + 1, 1L << 53);
        through(5, 6, 7, Long.MAX_VALUE, Long.MAX_VALUE);
        through(5, 6, 7, Long.MIN_VALUE, Long.MIN_VALUE);
        through(5, 6, 7, Integer.MAX_VALUE, 1L << 31);
        through(6, 6, 6, 1L << 62, 1L << 62);
        through(6, 7, 7, 16777219, 16777220);
        through(7, 7, 7, Long.MAX_VALUE - 1, Long.MAX_VALUE);
        through(7, 7, 7, -((1L << 53) + 1), -(1L << 53));
    }

    private static void refusals() {
        AnswerSlices x = new AnswerSlices();
        x.row(1, 0, 2);
        for (int c : OUTSIDE) {
            Due.due("5: column", x.put(c, 0, 0, 1), BAD);
            Due.due("6: column", x.get(c, 0, 0), BAD);
        }
        for (int sort : new int[] {-1, 8, -2, Integer.MAX_VALUE}) {
            Due.due("5: sort ahead of nothing", x.put(0, 0, sort, 1), BAD);
            Due.due("6: sort ahead of nothing", x.get(0, 0, sort), BAD);
        }
        Due.due("5: nothing ahead of beyond", x.put(0, 99, 4, 1), NOTHING);
        Due.due("6: nothing ahead of beyond", x.get(0, -1, 4), NOTHING);
        for (int i : new int[] {-1, 2, Integer.MIN_VALUE, Integer.MAX_VALUE}) {
            Due.due("5: beyond ahead of cast", x.put(1, i, 4, 1), BEYOND);
            Due.due("6: beyond ahead of cast", x.get(1, i, 4), BEYOND);
        }
        Due.due("5: cast", x.put(1, 0, 4, 1), CAST);
        Due.asked("5: nothing changes", x, x.get(1, 0, 0), 0);
    }

    private static void about() {
        AnswerSlices x = new AnswerSlices();
        x.row(3, 6, 7);
        x.share(5, 3);
        Due.due("8: kind", x.about(5, 0), 6);
        Due.due("8: cells", x.about(5, 1), 7);
        Due.due("8: least", x.about(5, 2), 3);
        x.share(1, 5);
        Due.due("8: least now", x.about(3, 2), 1);
        x.row(1, NONE, 0);
        Due.due("8: least again", x.about(5, 2), 3);
        Due.due("8: nothing", x.about(1, 2), NOTHING);
        for (int what : new int[] {-1, 3, Integer.MIN_VALUE}) {
            Due.due("8: what", x.about(3, what), BAD);
            Due.due("8: what, ahead of nothing", x.about(0, what), BAD);
        }
        for (int c : OUTSIDE) Due.due("8: column", x.about(c, 0), BAD);
    }
}
