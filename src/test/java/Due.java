/** What the tests share: calls are compared with what is due, and the wrong ones printed and counted. */
final class Due {
    private static int right = 0;
    private static int wrong = 0;

    private Due() { }

    static void due(String call, long got, long want) {
        if (got == want) {
            right++;
            return;
        }
        wrong++;
        System.out.println(call + " answered " + got + ", due is " + want);
    }

    static boolean anyWrong() {
        return wrong > 0;
    }

    static void done(String test) {
        System.out.println(test + ": " + right + " answers as due, " + wrong + " not");
        if (wrong > 0) System.exit(1);
    }

    /** Types a text. */
    static void type(AnswerSlices x, String text) {
        for (int i = 0; i < text.length(); i++) {
            x.type(text.charAt(i), 1);
        }
    }

    /** Types a text and reads it. */
    static int read(AnswerSlices x, String text) {
        type(x, text);
        return x.read();
    }

    /** A new object that has read a text. */
    static AnswerSlices of(String text) {
        AnswerSlices x = new AnswerSlices();
        if (read(x, text) < 0) due("read of " + text, x.fault(), 0);
        return x;
    }

    /** An answer and what THE BOARD has then. */
    static void board(String call, AnswerSlices x, int got, long above, long below) {
        due(call, got, 1);
        onBoard(call, x, above, below);
    }

    static void onBoard(String call, AnswerSlices x, long above, long below) {
        due(call + " above()", x.above(), above);
        due(call + " below()", x.below(), below);
    }

    static void asked(String call, AnswerSlices x, int got, long want) {
        due(call, got, 1);
        due(call + " asked()", x.asked(), want);
    }
}
