import java.util.function.Supplier;
import java.util.function.ToIntFunction;

/** What the tests share: calls are compared with what is due, and the wrong ones printed and counted. */
final class Due {
    private static final long MINUTES = 5;
    private static int right = 0;
    private static int wrong = 0;

    static {
        Thread watch = new Thread(Due::failIfItDoesNotEnd);
        watch.setDaemon(true);
        watch.start();
    }

    private Due() { }

    /** A call that does not end is a fault, too. */
    private static void failIfItDoesNotEnd() {
        try {
            Thread.sleep(MINUTES * 60_000);
        } catch (InterruptedException e) {
            return;
        }
        System.out.println("a call did not end in " + MINUTES + " minutes");
        Runtime.getRuntime().halt(1);
    }

    static void due(String call, long got, long want) {
        if (got == want) {
            right++;
            return;
        }
        wrong++;
        System.out.println(named(call) + " answered " + got + ", due is " + want);
    }

    /** A call that a test tells with a number ahead is one of the promise that has it. */
    private static String named(String call) {
        return Character.isDigit(call.charAt(0)) ? "promise " + call : call;
    }

    static boolean anyWrong() {
        return wrong > 0;
    }

    static void done(String test) {
        System.out.println(test + ": " + right + " answers as due, " + wrong + " not");
        if (wrong > 0) System.exit(1);
    }

    static void due(String call, String got, String want) {
        if (got.equals(want)) {
            right++;
            return;
        }
        wrong++;
        System.out.println(named(call) + " answered\n" + got + "due is\n" + want);
    }

    /** Types a text, eight bytes a call: an object is used for at most 512 calls. */
    static void type(AnswerSlices x, String text) {
        for (int at = 0; at < text.length(); at += 8) {
            int n = Math.min(8, text.length() - at);
            long w = 0;
            for (int i = 0; i < n; i++) {
                w = w << 8 | text.charAt(at + i);
            }
            x.type(w, n);
        }
    }

    /** Types a text and reads it. */
    static int read(AnswerSlices x, String text) {
        type(x, text);
        return x.read();
    }

    /** A new object that has read a text. */
    static AnswerSlices of(String text) {
        AnswerSlices x = new AnswerSlices();
        if (read(x, text) < 0) due("read of " + text, x.fault(), 0);
        return x;
    }

    /** An answer and what THE BOARD has then. */
    static void board(String call, AnswerSlices x, int got, long above, long below) {
        due(call, got, 1);
        onBoard(call, x, above, below);
    }

    static void onBoard(String call, AnswerSlices x, long above, long below) {
        due(call + ", promise 29: above()", x.above(), above);
        due(call + ", promise 30: below()", x.below(), below);
    }

    static void asked(String call, AnswerSlices x, int got, long want) {
        due(call, got, 1);
        due(call + ", promise 7: asked()", x.asked(), want);
    }

    /** All that can be told of an object by calls that change nothing. */
    static String state(AnswerSlices x) {
        StringBuilder told = new StringBuilder(findings(x));
        told.append("digest ").append(x.digest()).append(", asked ").append(x.asked());
        told.append(", board ").append(x.above()).append(" of ").append(x.below());
        told.append(", fault ").append(x.fault()).append(", counts");
        for (int what = 0; what <= 6; what++) told.append(' ').append(x.count(what));
        told.append(", tape ").append(x.count(13)).append(", columns");
        for (int c = 0; c < 6; c++) {
            for (int what = 0; what < 3; what++) told.append(' ').append(x.about(c, what));
        }
        told.append(", statements");
        for (int s = 0; s < x.count(0); s++) {
            for (int what = 0; what < 5; what++) told.append(' ').append(x.statement(s, what));
        }
        return told.append('\n').toString();
    }

    /** How often FINDINGS came in RUNS, by their codes. */
    static String findings(AnswerSlices x) {
        StringBuilder told = new StringBuilder("findings");
        for (int f = 1; f <= 6; f++) told.append(' ').append(x.count(6 + f));
        return told.append('\n').toString();
    }

    /** A call that is refused so, and by which nothing changes; on an object of its own. */
    static void refused(String call, Supplier<AnswerSlices> made, ToIntFunction<AnswerSlices> answer, int want) {
        AnswerSlices x = made.get();
        String before = state(x);
        due(call, answer.applyAsInt(x), want);
        due(call + ": nothing changes:", state(x), before);
    }

    /** An object in whose RUNS so many FINDINGS (all of them NOUGHT) came, in few calls. */
    static AnswerSlices withFindings(int n) {
        AnswerSlices x = new AnswerSlices();
        String one = "(try 1/0 else 0)";
        String draws = "die d=0 to 7;die e=0 to 7;";
        int left = bring(x, draws + "ask " + one + ("+" + one).repeat(14) + ";", 64 * 15, n);
        left = bring(x, "ask " + one + ("+" + one).repeat(16) + ";", 17, left);
        left = bring(x, "ask 1/0;", 1, left);
        due("13: brought all", left, 0);
        due("13: findings that came", x.count(11), n);
        return x;
    }

    /** Reads a text that has so many FINDINGS a call and works it as often as fits: what is left of n. */
    private static int bring(AnswerSlices x, String text, int each, int n) {
        read(x, text);
        for (int times = n / each; times > 0; times--) due("14: odds", x.odds(0, 1), 1);
        return n % each;
    }
}
