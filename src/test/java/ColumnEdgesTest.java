/** "1 COLUMNS" and promises 1 to 8, at their edges: how many, how far, what WIDENS, what bits are left. */
public final class ColumnEdgesTest {
    private static final int NONE = -2, NOTHING = -11, BEYOND = -12, CAST = -13;
    private static final int[] POWERS = {0, 1, 6, 7, 8, 14, 15, 16, 23, 24, 25, 30, 31, 32, 33, 52, 53, 54, 61, 62, 63};

    public static void main(String[] args) {
        atFirst();
        cells();
        noneAsKind();
        allTheSame();
        itHad();
        copies();
        lowestBits();
        madeOfLongs();
        everyWay();
        asIntsInRuns();
        askedLast();
        leastColumn();
        Due.done("ColumnEdgesTest");
    }

    /** "have a ROW or none (at first)"; "No ROWS, an empty TAPE, no text." */
    private static void atFirst() {
        AnswerSlices x = new AnswerSlices();
        for (int c = 0; c < 6; c++) {
            for (int what = 0; what < 3; what++) Due.due("1: no ROW", x.about(c, what), NOTHING);
            Due.due("1: no ROW", x.get(c, 0, 0), NOTHING);
            Due.due("1: no ROW", x.put(c, 0, 0, 0), NOTHING);
        }
        Due.due("1: an empty TAPE", x.count(13), 0);
        Due.due("1: no text", x.count(0), 0);
        Due.due("1: no RUNS", x.count(5), 0);
        Due.due("1: no text", x.kept(), NONE);
        Due.due("7: 0 before", x.asked(), 0);
        Due.due("29: at first", x.above(), 0);
        Due.due("30: at first", x.below(), 1);
        Due.due("10: the empty TAPE is no text", x.read(), -100);
    }

    /** "0 .. 20 CELLS"; "with n CELLS, each 0" */
    private static void cells() {
        for (int kind = 0; kind < 8; kind++) {
            for (int n : new int[] {0, 1, 19, 20}) {
                AnswerSlices x = new AnswerSlices();
                Due.due("2: row", x.row(kind % 6, kind, n), 1);
                Due.due("8: KIND", x.about(kind % 6, 0), kind);
                Due.due("8: CELLS", x.about(kind % 6, 1), n);
                for (int i = 0; i < n; i++) Due.asked("2: each 0", x, x.get(kind % 6, i, kind), 0);
                Due.due("6: the one behind the last", x.get(kind % 6, n, kind), BEYOND);
                Due.due("5: the one behind the last", x.put(kind % 6, n, kind, 1), BEYOND);
                Due.due("6: the one ahead of the first", x.get(kind % 6, -1, kind), BEYOND);
                if (n > 0) Due.due("5: the first", x.put(kind % 6, 0, kind, 1), 1);
                if (n > 0) Due.due("5: the last", x.put(kind % 6, n - 1, kind, 1), 1);
                for (int i = 0; i < n; i++) {
                    Due.asked("6: that alone", x, x.get(kind % 6, i, kind), i == 0 || i == n - 1 ? 1 : 0);
                }
            }
        }
        AnswerSlices x = new AnswerSlices();
        x.row(0, 4, 2);
        x.put(0, 0, 4, 5);
        Due.due("2: a new ROW in its place", x.row(0, 4, 2), 1);
        Due.asked("2: each 0", x, x.get(0, 0, 4), 0);
    }

    /** "NONE as KIND: it has none"; "of NONE n is not looked at" */
    private static void noneAsKind() {
        for (int n : new int[] {0, 20, 21, -1, Integer.MIN_VALUE, Integer.MAX_VALUE}) {
            AnswerSlices x = new AnswerSlices();
            x.row(3, 4, 1);
            x.share(4, 3);
            Due.due("2: NONE, n " + n, x.row(3, NONE, n), 1);
            Due.due("2: it has none", x.about(3, 0), NOTHING);
            Due.due("2: the other has it still", x.about(4, 2), 4);
            Due.due("2: NONE where there is none", x.row(3, NONE, n), 1);
        }
    }

    /** "two may have the very same one" */
    private static void allTheSame() {
        AnswerSlices x = new AnswerSlices();
        x.row(5, 4, 1);
        for (int c = 4; c >= 0; c--) {
            Due.due("3: share", x.share(c, c + 1), 1);
            Due.due("8: least", x.about(5, 2), c);
        }
        x.put(2, 0, 4, 9);
        for (int c = 0; c < 6; c++) Due.asked("3: the very ROW", x, x.get(c, 0, 4), 9);
        x.row(0, 4, 1);
        Due.due("8: least of the others", x.about(5, 2), 1);
        Due.asked("3: the others keep it", x, x.get(1, 0, 4), 9);
    }

    /** "(or none) .. 1; 0: it had" */
    private static void itHad() {
        AnswerSlices x = new AnswerSlices();
        Due.due("3: both none", x.share(0, 5), 0);
        Due.due("3: itself, none", x.share(0, 0), 0);
        x.row(0, 4, 0);
        x.row(1, 4, 0);
        Due.due("3: itself", x.share(0, 0), 0);
        Due.due("3: alike, but another", x.share(0, 1), 1);
        Due.due("3: the other way, it had", x.share(1, 0), 0);
        Due.due("3: none of another", x.share(0, 2), 1);
        Due.due("3: it has none", x.about(0, 1), NOTHING);
        Due.due("3: it had none", x.share(0, 2), 0);
    }

    /** "a new ROW that is as another one's: how many CELLS" */
    private static void copies() {
        for (int kind = 0; kind < 8; kind++) {
            for (int n : new int[] {0, 1, 20}) {
                AnswerSlices x = new AnswerSlices();
                x.row(5, kind, n);
                for (int i = 0; i < n; i++) x.put(5, i, kind, i % 2);
                Due.due("4: copy", x.copy(0, 5), n);
                Due.due("4: KIND", x.about(0, 0), kind);
                for (int i = 0; i < n; i++) Due.asked("4: CELL", x, x.get(0, i, kind), i % 2);
                Due.due("4: another ROW", x.about(5, 2), 5);
                Due.due("4: another ROW", x.share(0, 5), 1);
            }
        }
        AnswerSlices x = new AnswerSlices();
        x.row(0, 4, 1);
        x.share(1, 0);
        Due.due("4: of itself", x.copy(0, 0), 1);
        Due.due("4: a new one", x.about(1, 2), 1);
    }

    private static void through(int kind, long v, long want) {
        AnswerSlices x = new AnswerSlices();
        x.row(0, kind, 1);
        Due.due("5: " + v + " into " + kind, x.put(0, 0, kind, v), 1);
        Due.asked("6: " + v + " out of " + kind, x, x.get(0, 0, kind), want);
    }

    /** "a truth: whether it is not 0; a byte, char, short, int: its lowest bits" */
    private static void lowestBits() {
        for (long v : new long[] {1, -1, 2, 256, 65536, 1L << 32, 1L << 63, Long.MAX_VALUE}) through(0, v, 1);
        through(0, 0, 0);
        long[][] bytes = {{127, 127}, {128, -128}, {255, -1}, {256, 0}, {-128, -128}, {-129, 127}, {1L << 63, 0}};
        for (long[] pair : bytes) through(1, pair[0], pair[1]);
        long[][] chars = {{-1, 65535}, {32768, 32768}, {65535, 65535}, {65536, 0}, {-32769, 32767}, {-65536, 0}};
        for (long[] pair : chars) through(2, pair[0], pair[1]);
        long[][] shorts = {{32767, 32767}, {32768, -32768}, {65535, -1}, {65536, 0}, {-32769, 32767}};
        for (long[] pair : shorts) through(3, pair[0], pair[1]);
        long[][] ints = {{Integer.MAX_VALUE, Integer.MAX_VALUE}, {1L << 31, Integer.MIN_VALUE}, {(1L << 32) - 1, -1},
            {1L << 32, 0}, {Integer.MIN_VALUE - 1L, Integer.MAX_VALUE}, {Long.MIN_VALUE, 0}, {Long.MAX_VALUE, -1}};
        for (long[] pair : ints) through(4, pair[0], pair[1]);
        for (long v : new long[] {0, Long.MAX_VALUE, Long.MIN_VALUE, -1}) through(5, v, v);
    }

    /** "a float, a double: as Java makes them of longs"; "as Java casts them to long" */
    private static void madeOfLongs() {
        long high = Long.MAX_VALUE;
        long[][] floats = {{1 << 24, 1 << 24}, {(1 << 24) + 1, 1 << 24}, {(1 << 24) + 3, (1 << 24) + 4},
            {-(1 << 24) - 1, -(1 << 24)}, {high, high}, {high - (1L << 38) + 1, high}, {high - (1L << 38), (1L << 63) - (1L << 39)},
            {Long.MIN_VALUE, Long.MIN_VALUE}};
        for (long[] pair : floats) through(6, pair[0], pair[1]);
        long[][] doubles = {{1L << 53, 1L << 53}, {(1L << 53) + 1, 1L << 53}, {(1L << 53) + 3, (1L << 53) + 4},
            {-(1L << 53) - 1, -(1L << 53)}, {high, high}, {high - 511, high}, {high - 512, high - 1023},
            {Long.MIN_VALUE, Long.MIN_VALUE}};
        for (long[] pair : doubles) through(7, pair[0], pair[1]);
        AnswerSlices x = new AnswerSlices();
        x.row(0, 7, 1);
        x.put(0, 0, 6, (1 << 24) + 1);
        Due.asked("5: a float in a double is a float", x, x.get(0, 0, 7), 1 << 24);
        x.put(0, 0, 4, (1 << 24) + 1);
        Due.asked("5: an int in a double is whole", x, x.get(0, 0, 7), (1 << 24) + 1);
    }

    /** Each SORT into each KIND out as each SORT, of longs about each power of two: as real Java rows do. */
    private static void everyWay() {
        for (int sort = 0; sort < 8; sort++) {
            for (int kind = 0; kind < 8; kind++) {
                for (int power : POWERS) {
                    for (long near = -2; near <= 2; near++) {
                        everyWayOut(sort, kind, (1L << power) + near);
                        everyWayOut(sort, kind, -(1L << power) + near);
                    }
                }
            }
        }
    }

    private static void everyWayOut(int sort, int kind, long v) {
        AnswerSlices x = new AnswerSlices();
        Model m = new Model();
        x.row(0, kind, 1);
        m.row(0, kind, 1);
        Due.due("5: sort " + sort + " into kind " + kind, x.put(0, 0, sort, v), m.put(0, 0, sort, v));
        for (int as = 0; as < 8; as++) {
            Due.due("6: kind " + kind + " as sort " + as, x.get(0, 0, as), m.get(0, 0, as));
            Due.due("7: " + v + " by " + sort + " in " + kind + " as " + as, x.asked(), m.asked());
        }
        Due.due("31: " + v + " by " + sort + " in " + kind, x.digest(), m.digest());
    }

    /** "what comes out of COLUMN k's ROW at CELL e as an int: NOTHING, BEYOND, CAST" */
    private static void asIntsInRuns() {
        long[] given = {0, -128, 65535, -32768, Integer.MIN_VALUE, 0, 0, 0};
        for (int kind = 0; kind < 8; kind++) {
            boolean gives = kind >= 1 && kind <= 4;
            for (int k = 0; k < 6; k++) {
                AnswerSlices x = new AnswerSlices();
                x.row(k, kind, 20);
                x.put(k, 19, kind, given[kind]);
                Due.read(x, "ask col " + k + "[19];ask col " + k + "[20];ask col " + k + "[0-1];");
                if (gives) Due.asked("17: of kind " + kind, x, x.value(0, 0), given[kind]);
                else Due.board("15: CAST of kind " + kind, x, x.fails(0, 3), 1, 1);
                Due.board("15: BEYOND ahead of CAST, kind " + kind, x, x.fails(1, 2), 1, 1);
                Due.board("15: BEYOND below 0, kind " + kind, x, x.fails(2, 2), 1, 1);
                x.row(k, kind, 0);
                Due.board("15: BEYOND of no CELLS, kind " + kind, x, x.fails(0, 2), 1, 1);
                x.row(k, NONE, 0);
                Due.board("15: NOTHING", x, x.fails(0, 1), 1, 1);
                Due.board("15: NOTHING ahead of BEYOND", x, x.fails(1, 1), 1, 1);
            }
        }
    }

    /** "What was ASKED for last by a call that answered 1; 0 before." */
    private static void askedLast() {
        AnswerSlices x = new AnswerSlices();
        x.row(0, 4, 1);
        x.put(0, 0, 4, 7);
        Due.due("7: put() asks for nothing", x.asked(), 0);
        Due.asked("7: get()", x, x.get(0, 0, 4), 7);
        Due.due("6: CAST", x.get(0, 0, 0), CAST);
        Due.due("7: refused", x.asked(), 7);
        Due.read(x, "die d=3 to 4;ask d+10;");
        Due.asked("7: value()", x, x.value(0, 1), 14);
        Due.due("17: NONE", x.value(0, 2), NONE);
        Due.due("7: refused", x.asked(), 14);
        Due.asked("7: shown()", x, x.shown(0, 0), 3);
        Due.due("21: NONE", x.shown(2, 0), NONE);
        x.odds(0, 13);
        x.mean(0);
        x.values(0);
        x.kept();
        Due.due("7: by none of these", x.asked(), 3);
        Due.asked("7: 0 is asked for, too", x, x.get(0, 0, 4), 7);
        x.row(0, 4, 1);
        Due.asked("7: 0 is asked for, too", x, x.get(0, 0, 4), 0);
    }

    /** "2 the least COLUMN that has it" */
    private static void leastColumn() {
        for (int least = 0; least < 6; least++) {
            AnswerSlices x = new AnswerSlices();
            x.row(5, 4, 1);
            x.share(least, 5);
            for (int c = 0; c < 6; c++) {
                Due.due("8: least of " + c, x.about(c, 2), c == least || c == 5 ? least : NOTHING);
            }
        }
    }
}
