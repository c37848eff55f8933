import java.util.List;

/** "2 TEXTS", sentence by sentence: tokens, the grammar, each FAULT at its edge, texts read one after another. */
public final class TextEdgesTest {
    private static final int NO_TOKEN = 1, MISPLACED = 2, TAKEN = 3, UNKNOWN = 4, BOUNDS = 5, MANY = 6, DEEP = 7;
    private static final List<String> WORDS = List.of("coin", "die", "let", "see", "ask", "of", "to", "col", "if",
        "then", "else", "try", "fail");
    /** Each form of the grammar once; its NAMES that are used, not made, are c, d and e alone. */
    private static final String[] ALL_FORMS = ("coin c = 1 of 2 ; die d = 3 to 4 ; let e = - c + 2 * ( d - 1 ) / 3 ; "
        + "see if c then 1 else d < 5 ; ask try col 0 [ c ] else fail e = 1 ;").split(" ");

    public static void main(String[] args) {
        everyByte();
        names();
        numbers();
        words();
        touching();
        cutShort();
        strays();
        takenAndUnknown();
        firstFromTheLeft();
        bounds();
        sixteen();
        runs64();
        eightOpen();
        closed();
        missing();
        tapeOf300();
        oneAfterAnother();
        nothingIsLeft();
        shorterTapes();
        numbered();
        codes();
        Due.done("TextEdgesTest");
    }

    /** The place of the FAULT and its code. */
    private static void faulty(String text, int place, int code) {
        AnswerSlices x = new AnswerSlices();
        Due.due("10: " + text, Due.read(x, text), -100 - place);
        Due.due("11: " + text, x.fault(), code);
    }

    private static void sound(String text, int statements) {
        AnswerSlices x = new AnswerSlices();
        Due.due("10: " + text, Due.read(x, text), statements);
        Due.due("11: " + text, x.fault(), 0);
    }

    /** "TOKENS .., bytes 32 and 10 between"; "1 no token begins there" */
    private static void everyByte() {
        for (int b = 0; b < 256; b++) {
            char c = (char) b;
            boolean blank = b == 32 || b == 10;
            boolean token = c >= 'a' && c <= 'z' || c >= '0' && c <= '9' || ";=+-*/<()[]".indexOf(c) >= 0;
            faulty("" + c, blank ? 1 : 0, blank || token ? MISPLACED : NO_TOKEN);
            faulty("ask 1;" + c, 6 + (blank ? 1 : 0), blank ? 0 : token ? MISPLACED : NO_TOKEN, blank);
            if (blank) sound(c + "ask" + c + "1" + c + ";" + c, 1);
            if (!blank && !token) faulty("ask 1" + c + ";", 5, NO_TOKEN);
        }
    }

    private static void faulty(String text, int place, int code, boolean fine) {
        if (fine) {
            sound(text, 1);
        } else {
            faulty(text, place, code);
        }
    }

    /** "NAMES, a letter a .. z, then letters and digits, 6 at most" */
    private static void names() {
        for (String name : new String[] {"a", "z", "a0", "z9", "az09", "abcdef", "a12345", "zzzzzz", "z99999"}) {
            sound("let " + name + "=1;ask " + name + ";", 2);
            sound("coin " + name + "=1 of 2;ask " + name + ";", 2);
            sound("die " + name + "=1 to 2;ask " + name + ";", 2);
        }
        for (String name : new String[] {"abcdefg", "a123456", "zzzzzzz", "abcdefghijklmnopqrstuvwxyz", "coincoin"}) {
            faulty("let " + name + "=1;", 4, NO_TOKEN);
            faulty("let a=1;ask " + name + ";", 12, NO_TOKEN);
            faulty(name, 0, NO_TOKEN);
            faulty("ask 1 " + name, 6, NO_TOKEN);
        }
        faulty("let 1a=1;", 4, MISPLACED);
        faulty("let A=1;", 4, NO_TOKEN);
        faulty("let aB=1;", 5, NO_TOKEN);
        faulty("let abcdefB=1;", 10, NO_TOKEN);
    }

    /** "NUMBERS, 1 to 6 digits" */
    private static void numbers() {
        for (String number : new String[] {"0", "9", "00", "000000", "000001", "100000", "999999"}) {
            AnswerSlices x = Due.of("ask " + number + ";");
            Due.asked("10: " + number, x, x.value(0, 0), Integer.parseInt(number));
        }
        for (String number : new String[] {"1000000", "0000000", "0000001", "2147483647", "99999999999999999999"}) {
            faulty("ask " + number + ";", 4, NO_TOKEN);
            faulty("ask 1" + "+" + number + ";", 6, NO_TOKEN);
            faulty("coin a=" + number + " of 2;", 7, NO_TOKEN);
            faulty("coin a=1 of " + number + ";", 12, NO_TOKEN);
            faulty("die a=1 to " + number + ";", 11, NO_TOKEN);
            faulty("ask col " + number + "[0];", 8, NO_TOKEN);
        }
    }

    /** "WORDS, which are no NAMES" */
    private static void words() {
        for (String word : WORDS) {
            faulty("let " + word + "=1;", 4, MISPLACED);
            faulty("coin " + word + "=1 of 2;", 5, MISPLACED);
            faulty("die " + word + "=1 to 2;", 4, MISPLACED);
            sound("let " + word + "s=1;ask " + word + "s;", 2);
            sound("let " + word + "1=1;ask " + word + "1;", 2);
            sound("let x" + word + "=1;ask x" + word + ";", 2);
            boolean first = WORDS.indexOf(word) <= 4;
            faulty(word, first ? word.length() : 0, MISPLACED);
            boolean opens = List.of("col", "if", "try", "fail").contains(word);
            faulty("ask " + word, 4 + (opens ? word.length() : 0), MISPLACED);
        }
    }

    /** "each as long as can be" */
    private static void touching() {
        faulty("ask1;", 0, MISPLACED);
        faulty("seea;", 0, MISPLACED);
        faulty("asklet1;", 0, NO_TOKEN);
        faulty("ask col1[0];", 4, UNKNOWN);
        faulty("ask 1 2;", 6, MISPLACED);
        faulty("ask 1a;", 5, MISPLACED);
        faulty("ask fail1;", 4, UNKNOWN);
        sound("ask if 1then 2else 3;", 1);
        sound("coin a=1of 2;", 1);
        faulty("coin a=1of2;", 8, MISPLACED);
        sound("ask(1)+(2);ask-1;", 2);
        sound("let a=1;ask\na\n;", 2);
    }

    private static String joined(String[] tokens, int n) {
        return String.join(" ", List.of(tokens).subList(0, n));
    }

    /** "(or the end: THE TAPE's length)" */
    private static void cutShort() {
        int statements = 0;
        for (int n = 0; n <= ALL_FORMS.length; n++) {
            String text = joined(ALL_FORMS, n);
            if (n > 0 && ALL_FORMS[n - 1].equals(";")) {
                statements++;
                sound(text, statements);
            } else {
                faulty(text, text.length(), MISPLACED);
                faulty(text + " \n ", text.length() + 3, MISPLACED);
            }
        }
        Due.due("10: all of it", statements, 5);
    }

    private static String with(int at, String token) {
        String[] tokens = ALL_FORMS.clone();
        tokens[at] = token;
        return String.join(" ", tokens);
    }

    /** "2 it can not stand there", at each place; and no token there */
    private static void strays() {
        for (int at = 0; at < ALL_FORMS.length; at++) {
            int place = joined(ALL_FORMS, at).length() + (at > 0 ? 1 : 0);
            String stray = ALL_FORMS[at].equals("to") ? "of" : "to";
            faulty(with(at, stray), place, MISPLACED);
            if (stray.equals("to")) faulty(with(at, stray + " " + ALL_FORMS[at]), place, MISPLACED);
            for (String none : new String[] {"?", "A", "\t", "abcdefg", "1234567"}) {
                faulty(with(at, none), place, NO_TOKEN);
                faulty(with(at, none + " " + ALL_FORMS[at]), place, NO_TOKEN);
            }
        }
        faulty(String.join(" ", ALL_FORMS) + " to", String.join(" ", ALL_FORMS).length() + 1, MISPLACED);
    }

    /** "3 a NAME behind coin, die, let that is there already. 4 a NAME that is none (of a statement ahead)." */
    private static void takenAndUnknown() {
        String three = "coin a=1 of 2;die b=1 to 2;let c=1;";
        for (String name : new String[] {"a", "b", "c"}) {
            faulty(three + "coin " + name + "=1 of 2;", 40, TAKEN);
            faulty(three + "die " + name + "=1 to 2;", 39, TAKEN);
            faulty(three + "let " + name + "=1;", 39, TAKEN);
            sound(three + "ask " + name + ";", 4);
        }
        for (String name : new String[] {"d", "aa", "a1", "ab"}) {
            sound(three + "let " + name + "=1;", 4);
            faulty(three + "ask " + name + ";", 39, UNKNOWN);
            faulty(three + "see " + name + ";", 39, UNKNOWN);
            faulty(three + "let " + name + "=" + name + ";", 39 + name.length() + 1, UNKNOWN);
            faulty(three + "ask " + name + ";let " + name + "=1;", 39, UNKNOWN);
        }
        sound("see 1;ask 2;let a=1;let b=a;", 4);
        for (int at = 0; at < ALL_FORMS.length; at++) {
            boolean name = ALL_FORMS[at].matches("[cde]");
            boolean made = at > 0 && ALL_FORMS[at - 1].matches("coin|die|let");
            if (name && !made) faulty(with(at, "z"), joined(ALL_FORMS, at).length() + 1, UNKNOWN);
            if (made && at > 1) faulty(with(at, "c"), joined(ALL_FORMS, at).length() + 1, TAKEN);
        }
    }

    /** "the first from the left, of one token by its code" */
    private static void firstFromTheLeft() {
        String[] faults = {"?", "to", "z", "col 6[0]", "(((((((((1"};
        int[] codes = {NO_TOKEN, MISPLACED, UNKNOWN, BOUNDS, DEEP};
        int[] behind = {0, 0, 0, 4, 8};
        for (int one = 0; one < faults.length; one++) {
            for (String other : faults) {
                faulty("ask 1+" + faults[one] + "+" + other + ";", 6 + behind[one], codes[one]);
            }
        }
        String sixteen = "ask 1;".repeat(16);
        faulty(sixteen + "?", 96, NO_TOKEN);
        faulty(sixteen + "abcdefg", 96, NO_TOKEN);
        faulty(sixteen + "of", 96, MISPLACED);
        faulty(sixteen + "ask ?", 96, MANY);
        faulty(sixteen + "ask", 96, MANY);
        faulty("let a=1;let a?", 12, TAKEN);
        faulty("coin a=9 of 8?", 12, BOUNDS);
        faulty("ask col 6?", 8, BOUNDS);
        faulty("ask ((((((((of", 12, MISPLACED);
        faulty("ask ((((((((?", 12, NO_TOKEN);
        faulty("ask ((((((((z", 12, UNKNOWN);
    }

    /** "5 a NUMBER out of its bounds" */
    private static void bounds() {
        for (int a = 0; a <= 14; a++) {
            for (int b = 0; b <= 14; b++) {
                String head = "coin a=" + a + " of ";
                boolean fine = b >= 1 && b <= 12 && b >= a;
                faulty(head + b + ";", head.length(), BOUNDS, fine);
            }
        }
        for (int low : new int[] {0, 1, 8, 999990, 999999}) {
            for (int high = Math.max(0, low - 2); high <= Math.min(999999, low + 9); high++) {
                String head = "die a=" + low + " to ";
                boolean fine = high >= low && high <= low + 7;
                faulty(head + high + ";", head.length(), BOUNDS, fine);
                if (fine) Due.due("12: values", Due.of(head + high + ";").statement(0, 4), high - low + 1);
            }
        }
        faulty("coin a=999999 of 999999;", 17, BOUNDS);
        faulty("coin a=999999 of 12;", 17, BOUNDS);
        faulty("die a=999999 to 0;", 16, BOUNDS);
        faulty("die a=0 to 999999;", 11, BOUNDS);
        for (int k = 0; k <= 7; k++) faulty("ask col " + k + "[0];", 8, BOUNDS, k <= 5);
        faulty("ask col 999999[0];", 8, BOUNDS);
    }

    /** "6 the 17th statement, at its first token" */
    private static void sixteen() {
        String[] some = {"coin a=1 of 1;", "die a=1 to 1;", "let a=1;", "see 1;", "ask 1;"};
        for (String last : some) {
            sound("see 1;".repeat(15) + last, 16);
            faulty("see 1;".repeat(16) + last, 96, MANY);
            faulty("see 1;".repeat(16) + "\n " + last, 98, MANY);
        }
        sound("see 1;".repeat(16) + "   ", 16);
        faulty("see 1;".repeat(30), 96, MANY);
    }

    /** "the ; of a coin, a die by which there would be more than 64 RUNS" */
    private static void runs64() {
        runs("die a=1 to 8;die b=1 to 8;", 64);
        runs("die a=1 to 4;die b=1 to 4;die c=1 to 4;", 64);
        runs("coin a=1 of 2;coin b=1 of 2;coin c=1 of 2;coin d=1 of 2;coin e=1 of 2;coin f=1 of 2;", 64);
        runs("die a=1 to 7;die b=1 to 3;die c=1 to 3;", 63);
        faulty("die a=1 to 7;die b=1 to 5;coin c=1 of 2;", 39, MANY);
        faulty("coin c=1 of 2;die a=1 to 7;die b=1 to 5 ;", 40, MANY);
        faulty("die a=1 to 3;die b=1 to 4;die c=1 to 6;", 38, MANY);
        faulty("die a=1 to 8;die b=1 to 8;coin c=0 of 1;ask z;", 39, MANY);
        String full = "die a=1 to 8;die b=1 to 8;";
        for (String more : new String[] {"die c=5 to 5;", "let c=1;", "see a;", "ask b;"}) sound(full + more, 3);
    }

    private static void runs(String text, int want) {
        Due.due("13: RUNS of " + text, Due.of(text).count(5), want);
    }

    /** "7 a 9th of these open at one time" */
    private static void eightOpen() {
        String[] openers = {"(", "-", "fail ", "col 0[", "if ", "if 1 then ", "if 1 then 1 else ", "try ", "try 1 else "};
        String[] closers = {")", "", "", "]", " then 1 else 1", " else 1", "", " else 1", ""};
        int[] opensAt = {0, 0, 0, 5, 0, 0, 0, 0, 0};
        for (int one = 0; one < openers.length; one++) {
            sound("ask " + openers[one].repeat(8) + "1" + closers[one].repeat(8) + ";", 1);
            for (int other = 0; other < openers.length; other++) {
                String seven = "ask " + openers[one].repeat(7);
                sound(seven + openers[other] + "1" + closers[other] + closers[one].repeat(7) + ";", 1);
                String eight = "ask " + openers[one].repeat(8);
                faulty(eight + openers[other] + "1", eight.length() + opensAt[other], DEEP);
            }
        }
    }

    /** "( and [ up to their ), ], the signs - (ahead of a FACTOR) and the words .. up to the end of their FACTOR" */
    private static void closed() {
        String deep = "((((((((1))))))))";
        String[] done = {"(1)", "-1", "--1", "fail 1", "fail(1)", "col 0[1]", "(if 1 then 2 else 3)", "(try 1 else 2)",
            "(if if 1 then 2 else 3 then 4 else 5)", "-col 0[-1]", deep};
        for (String one : done) {
            sound("ask " + one + "+" + deep + ";", 1);
            sound("ask " + one + "*" + deep + "<" + one + "-" + deep + ";", 1);
            sound("ask 1-" + deep + ";ask " + one + ";ask " + deep + ";", 3);
            faulty("ask " + one + "+(" + deep, 4 + one.length() + 9, DEEP);
        }
        sound("ask 1-1-1-1-1-1-1-1-1-1-1-1-1;", 1);
        sound("ask 1" + "+-1".repeat(20) + ";", 1);
        sound("ask 1" + "+(1)".repeat(20) + ";", 1);
        sound("ask 1" + "+fail 1".repeat(20) + ";", 1);
        sound("ask 1" + "+col 0[1]".repeat(20) + ";", 1);
        sound("ask 1" + "+(try 1 else 2)".repeat(18) + ";", 1);
        sound("ask 1" + "+(if 1 then 2 else 3)".repeat(13) + ";", 1);
        sound("ask try -------1 else -------1;", 1);
        faulty("ask try --------1 else 1;", 15, DEEP);
        faulty("ask try 1 else --------1;", 22, DEEP);
        faulty("ask if 1 then 2 else 3+--------1;", 30, DEEP);
    }

    /** What is left out of a statement, just ahead of its ; */
    private static void missing() {
        faulty("coin;", 4, MISPLACED);
        faulty("coin a;", 6, MISPLACED);
        faulty("coin a=;", 7, MISPLACED);
        faulty("coin a=1;", 8, MISPLACED);
        faulty("coin a=1 of;", 11, MISPLACED);
        faulty("die;", 3, MISPLACED);
        faulty("die a;", 5, MISPLACED);
        faulty("die a=;", 6, MISPLACED);
        faulty("die a=1;", 7, MISPLACED);
        faulty("die a=1 to;", 10, MISPLACED);
        faulty("let;", 3, MISPLACED);
        faulty("let a;", 5, MISPLACED);
        faulty("let a=;", 6, MISPLACED);
        faulty("see;", 3, MISPLACED);
        for (String part : new String[] {"1+", "1-", "1*", "1/", "1<", "1=", "-", "(", "(1", "col", "col 1", "col 1[",
            "col 1[1", "if", "if 1", "if 1 then", "if 1 then 1", "if 1 then 1 else", "try", "try 1", "try 1 else",
            "fail", ""}) {
            faulty("ask " + part + ";", 4 + part.length(), MISPLACED);
        }
        for (String more : new String[] {")", "]", "(", "[", "1", "if", "col", "<1<", "=1=", "<1=", "=1<"}) {
            faulty("ask 1 " + more + ";", more.length() == 3 && !more.equals("col") ? 8 : 6, MISPLACED);
        }
    }

    /** A text as long as THE TAPE, in bytes and in tokens. */
    private static void tapeOf300() {
        String most = "ask 1" + "+1".repeat(147) + ";";
        AnswerSlices x = Due.of(most);
        Due.due("13: tokens", x.count(6), 297);
        Due.asked("17: its sum", x, x.value(0, 0), 148);
        AnswerSlices signs = Due.of("ask-1" + "-1".repeat(147) + ";");
        Due.due("13: tokens", signs.count(6), 298);
        Due.asked("17: its sum", signs, signs.value(0, 0), -148);
        faulty("ask 1" + "+1".repeat(147) + "+", 300, MISPLACED);
        faulty(" ".repeat(300), 300, MISPLACED);
        faulty("a".repeat(300), 0, NO_TOKEN);
        faulty("1".repeat(300), 0, NO_TOKEN);
        faulty("(".repeat(300), 0, MISPLACED);
        faulty(" ".repeat(299) + "?", 299, NO_TOKEN);
        sound(" ".repeat(294) + "ask 1;", 1);
        long h = 17;
        for (int c = 0; c < 6; c++) h = 31 * h - 2;
        for (int i = 0; i < 300; i++) h = 31 * h + most.charAt(i);
        Due.due("31: all bytes", x.digest(), h);
    }

    /** "THE TAPE, which is empty then, is the text"; FAULTS, deep ones too, and sound texts in turn. */
    private static void oneAfterAnother() {
        AnswerSlices x = new AnswerSlices();
        String[] faulty = {"ask ((((((((1", "ask if try --(1", "ask col 0[", "ask fail fail fail", "let a=1;let b=((", "?"};
        for (int n = 0; n < faulty.length; n++) {
            int got = Due.read(x, faulty[n]);
            Due.due("10: a FAULT", got <= -100 ? 1 : 0, 1);
            Due.due("13: THE TAPE is empty", x.count(13), 0);
            Due.due("10: sound", Due.read(x, "ask ((((((((" + n + "))))))));ask 1;"), 2);
            Due.due("11: of the latest", x.fault(), 0);
            Due.due("13: THE TAPE is empty", x.count(13), 0);
            Due.asked("17: the text is the latest", x, x.value(0, 0), n);
        }
        AnswerSlices long300 = new AnswerSlices();
        for (int n = 0; n < 12; n++) {
            String text = "ask " + n + "+1".repeat(n < 10 ? 147 : 146) + ";";
            Due.due("10: the " + n + "th", Due.read(long300, text), 1);
            Due.asked("17: the " + n + "th", long300, long300.value(0, 0), n + (n < 10 ? 147 : 146));
        }
    }

    /** Of a text that was read ahead, nothing is left in the next ones. */
    private static void nothingIsLeft() {
        AnswerSlices x = new AnswerSlices();
        String former = "coin a=3 of 7;die b=2 to 9;let c=a;let d=1/0;see a+b;ask c+d;ask d;";
        String later = "see 1;ask 2;let c=5;ask c;coin d=1 of 2;ask d;die b=4 to 4;";
        for (int n = 0; n < 3; n++) {
            Due.due("10: former", Due.read(x, former), 7);
            Due.board("15: former", x, x.fails(0, 5), 1, 1);
            Due.due("10: former, with a FAULT", Due.read(x, former + "?"), -100 - former.length());
        }
        Due.read(x, later);
        int[][] want = {{3, 0, 0, 0, 0}, {4, 6, 0, 0, 0}, {2, 12, 0, 0, 0}, {4, 20, 1, 0, 0}, {0, 26, 0, 1, 2},
            {4, 40, 2, 0, 0}, {1, 46, 1, 4, 1}};
        for (int s = 0; s < want.length; s++) {
            for (int what = 0; what < 5; what++) Due.due("12: later", x.statement(s, what), want[s][what]);
        }
        int[] counts = {7, 2, 1, 1, 3, 2, 31};
        for (int what = 0; what < counts.length; what++) Due.due("13: later", x.count(what), counts[what]);
        Due.due("24: later", x.slice(0), 1);
        Due.due("24: later", x.slice(1), 2);
        Due.due("24: later", x.slice(2), 2);
        Due.board("14: a NAME that had FAILED", x, x.odds(2, 1), 1, 2);
        Due.board("14: later", x, x.odds(1, 5), 1, 1);
        AnswerSlices draw = Due.of("let a=1/0;ask a;");
        Due.board("15: FAILED", draw, draw.fails(0, 5), 1, 1);
        Due.read(draw, "coin a=1 of 2;ask a;");
        Due.board("14: a DRAW where a let FAILED", draw, draw.odds(0, 1), 1, 2);
        Due.due("10: its NAMES are none", Due.read(x, "ask a;"), -104);
        Due.due("11: its NAMES are none", x.fault(), UNKNOWN);
        Due.due("10: its NAMES are free", Due.read(x, "let a=1;let b=2;let c=3;let d=4;"), 4);
    }

    /** The bytes of a longer TAPE ahead are no part of the next one. */
    private static void shorterTapes() {
        for (String former : new String[] {" ".repeat(40), "a".repeat(40), "1".repeat(40), ";".repeat(40),
            "ask 1;".repeat(7)}) {
            for (String cut : new String[] {"ask", "ask 1", "let a", "ask 1+", "see 1;ask", "coin a=1 of 2"}) {
                AnswerSlices x = new AnswerSlices();
                Due.read(x, former);
                Due.read(x, former);
                Due.due("10: the end of " + cut, Due.read(x, cut), -100 - cut.length());
                Due.due("11: the end of " + cut, x.fault(), MISPLACED);
                Due.due("10: sound", Due.read(x, "ask 1;"), 1);
                Due.due("13: its tokens", x.count(6), 3);
            }
        }
    }

    /** "DRAWS are coins and dice, numbered from 0 on; SEES, QUESTIONS (ask) likewise, each by itself." */
    private static void numbered() {
        AnswerSlices x = Due.of("ask 1;die a=1 to 2;see 1;let b=1;coin c=1 of 2;ask 2;let d=1;see 2;die e=3 to 3;");
        int[] numbers = {0, 0, 0, 0, 1, 1, 1, 1, 2};
        for (int s = 0; s < numbers.length; s++) Due.due("12: number of " + s, x.statement(s, 2), numbers[s]);
    }

    /** "The code of the FAULT of the latest read(); 0." */
    private static void codes() {
        String[] texts = {"?", "", "let a=1;let a=1;", "ask a;", "ask col 6[0];", "ask 1;".repeat(17), "ask ---------1;"};
        AnswerSlices x = new AnswerSlices();
        Due.due("11: no read() yet", x.fault(), 0);
        for (int code = 1; code <= 7; code++) {
            Due.read(x, texts[code - 1]);
            Due.due("11: fault()", x.fault(), code);
            x.type(32, 1);
            Due.due("11: till the next read()", x.fault(), code);
        }
        Due.due("10: sound", Due.read(x, "ask 1;"), 1);
        Due.due("11: none", x.fault(), 0);
        Due.read(x, "?");
        x.clear();
        Due.due("32: as at first", x.fault(), 0);
    }
}
