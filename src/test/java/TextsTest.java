/** Promises 9 to 13: type, read, fault, statement, count. */
public final class TextsTest {
    private static final int BAD = -1, FULL = -3;

    public static void main(String[] args) {
        type();
        readAndFault();
        faultsOfTokens();
        faultsOfPlaces();
        faultsOfNames();
        faultsOfNumbers();
        faultsOfCounts();
        faultsOfDepth();
        goingOn();
        statement();
        count();
        Due.done("TextsTest");
    }

    private static void type() {
        AnswerSlices x = new AnswerSlices();
        Due.due("9: n 0", x.type(65, 0), BAD);
        Due.due("9: n 9", x.type(65, 9), BAD);
        Due.due("9: n least", x.type(65, Integer.MIN_VALUE), BAD);
        Due.due("9: ask 1 +", x.type(0x61736b20312b0aL, 7), 7);
        Due.due("9: 2; the lowest two of w", x.type(0x7f7f7f7f7f7f323bL, 2), 9);
        Due.due("9: highest first", x.read(), 1);
        Due.asked("9: 1 + 2", x, x.value(0, 0), 3);
        for (int i = 1; i <= 37; i++) Due.due("9: 8 blanks", x.type(0x2020202020202020L, 8), 8 * i);
        Due.due("9: 296 and 5", x.type(0x2020202020L, 5), FULL);
        Due.due("9: BAD ahead of FULL", x.type(0, 9), BAD);
        Due.due("9: nothing changed", x.count(13), 296);
        Due.due("9: 300", x.type(0x20202020L, 4), 300);
        Due.due("9: 301", x.type(0x20, 1), FULL);
        Due.due("9: the end of 300 blanks", x.read(), -400);
        Due.due("9: empty then", x.type(32, 1), 1);
    }

    private static void readAndFault() {
        AnswerSlices x = new AnswerSlices();
        Due.due("10: empty", x.read(), -100);
        Due.due("11: empty", x.fault(), 2);
        Due.due("10: three", Due.read(x, "coin a=1 of 2;let b=a;ask b;"), 3);
        Due.due("11: sound", x.fault(), 0);
        Due.due("10: the tape is empty", x.count(13), 0);
        long digest = x.digest();
        Due.due("10: fault", Due.read(x, "ask 1;ask ?;"), -110);
        Due.due("11: fault", x.fault(), 1);
        Due.due("11: again", x.fault(), 1);
        Due.due("10: the tape is empty", x.count(13), 0);
        Due.due("10: the text stays", x.digest(), digest);
        Due.due("10: its statements stay", x.count(0), 3);
        Due.due("10: its words stay", x.statement(1, 0), 2);
        Due.board("10: it is worked", x, x.odds(0, 1), 1, 2);
        Due.due("10: another", Due.read(x, "see 1;"), 1);
        Due.due("10: of that", x.count(4), 0);
    }

    /** A text, the place of its FAULT, and the code; a place below 0: it is sound. */
    private static void faulty(String text, int place, int code) {
        AnswerSlices x = new AnswerSlices();
        int got = Due.read(x, text);
        if (place < 0) {
            Due.due("10: sound: " + text, got > 0 ? 1 : got, 1);
        } else {
            Due.due("10: " + text, got, -100 - place);
            Due.due("10: no text: " + text, x.count(0), 0);
        }
        Due.due("11: " + text, x.fault(), code);
    }

    private static void sound(String text) {
        faulty(text, -1, 0);
    }

    private static void faultsOfTokens() {
        for (String stray : new String[] {"A", "\t", "\r", ">", "{", "_", ".", "\0", "\u00ff", "!", ","}) {
            faulty(stray, 0, 1);
            faulty("ask " + stray, 4, 1);
            faulty("ask 1" + stray + ";", 5, 1);
        }
        sound("let abcdef=1;ask abcdef;");
        sound("let a12345=1;ask a12345;");
        faulty("let abcdefg=1;", 4, 1);
        faulty("let a123456=1;", 4, 1);
        faulty("let a = abcdefg;", 8, 1);
        sound("ask 999999;");
        sound("ask 000001;");
        faulty("ask 1000000;", 4, 1);
        faulty("ask 0000001;", 4, 1);
        faulty("askask1;", 0, 1);
        faulty("ask1;", 0, 2);
        sound("\n\n ask\n1\n;\n ");
        sound("ask(1);");
        sound("ask-1;");
        faulty("ask 1a;", 5, 2);
        faulty("coin a=1of2;", 8, 2);
        sound("coin a=1of 2;");
        faulty("ask 1+1234567+x;", 6, 1);
        faulty("ask x+1234567;", 4, 4);
        faulty("ask 1;?", 6, 1);
        faulty(";".repeat(300), 0, 2);
        faulty("ask 1" + "+1".repeat(147) + "+", 300, 2);
        sound("ask 1" + "+1".repeat(147) + ";");
    }

    private static void faultsOfPlaces() {
        faulty("   ", 3, 2);
        faulty("a", 0, 2);
        faulty(";", 0, 2);
        faulty("ask", 3, 2);
        faulty("ask 1", 5, 2);
        faulty("ask 1 \n", 7, 2);
        faulty("ask ;", 4, 2);
        faulty("ask 1;;", 6, 2);
        faulty("ask 1 2;", 6, 2);
        faulty("ask 1<2<3;", 7, 2);
        faulty("ask 1=2=3;", 7, 2);
        faulty("ask 1<2=3;", 7, 2);
        sound("ask (1<2)=3;");
        faulty("ask 1+;", 6, 2);
        faulty("ask +1;", 4, 2);
        faulty("ask 1--;", 7, 2);
        sound("ask 1--1;");
        faulty("ask ();", 5, 2);
        faulty("ask (1;", 6, 2);
        faulty("ask 1);", 5, 2);
        faulty("ask (1];", 6, 2);
        faulty("ask col;", 7, 2);
        faulty("ask col a[1];", 8, 2);
        faulty("ask col 1;", 9, 2);
        faulty("ask col 1(0);", 9, 2);
        faulty("ask col 1[];", 10, 2);
        faulty("ask col 1[0);", 11, 2);
        faulty("ask if 1 else 2;", 9, 2);
        faulty("ask if 1 then 2;", 15, 2);
        faulty("ask try 1;", 9, 2);
        faulty("ask try 1 then 2;", 10, 2);
        faulty("ask fail;", 8, 2);
        faulty("ask of;", 4, 2);
        faulty("coin = 1 of 2;", 5, 2);
        faulty("coin die = 1 of 2;", 5, 2);
        faulty("coin a 1 of 2;", 7, 2);
        faulty("coin a = b of 2;", 9, 2);
        faulty("coin a = -1 of 2;", 9, 2);
        faulty("coin a = 1 to 2;", 11, 2);
        faulty("coin a = 1 of (2);", 14, 2);
        faulty("coin a = 1 of 2", 15, 2);
        faulty("coin a = 1 of 2 + 1;", 16, 2);
        faulty("die a = 1 of 2;", 10, 2);
        faulty("die a < 1 to 2;", 6, 2);
        faulty("let 1 = 2;", 4, 2);
        faulty("let a = ;", 8, 2);
        faulty("see;", 3, 2);
        faulty("see a = 1;", 4, 4);
    }

    private static void faultsOfNames() {
        faulty("let a=1;let a=2;", 12, 3);
        faulty("coin a=1 of 2;die a=1 to 2;", 18, 3);
        faulty("let a=1;coin a?", 13, 3);
        faulty("ask a;", 4, 4);
        faulty("let a=a;", 6, 4);
        faulty("let a=b;let b=1;", 6, 4);
        faulty("let a=1;ask a1;", 12, 4);
        faulty("let a=1;ask aa;", 12, 4);
        sound("let a=1;let aa=a;ask aa;");
        sound("let coins=1;ask coins;");
        sound("let iff=1;ask iff;");
        faulty("ask x ?", 4, 4);
    }

    private static void faultsOfNumbers() {
        sound("coin a=0 of 1;");
        sound("coin a=12 of 12;");
        faulty("coin a=0 of 0;", 12, 5);
        faulty("coin a=0 of 13;", 12, 5);
        faulty("coin a=3 of 2;", 12, 5);
        faulty("coin a=99 of 12;", 13, 5);
        faulty("coin a=99 of 12?", 13, 5);
        sound("die a=5 to 5;");
        sound("die a=0 to 7;");
        sound("die a=999999 to 999999;");
        faulty("die a=0 to 8;", 11, 5);
        faulty("die a=5 to 4;", 11, 5);
        faulty("die a=999999 to 0;", 16, 5);
        sound("ask col 5[0];");
        faulty("ask col 6[0];", 8, 5);
        faulty("ask col 999999 0;", 8, 5);
        sound("ask col 000005[0];");
    }

    private static void faultsOfCounts() {
        String sixteen = "ask 1;".repeat(16);
        sound(sixteen);
        faulty(sixteen + "ask 1;", 96, 6);
        faulty(sixteen + " coin", 97, 6);
        faulty(sixteen + "a", 96, 2);
        faulty(sixteen + "?", 96, 1);
        faulty(sixteen + ";", 96, 2);
        String coins = "coin a=1 of 2;coin b=1 of 2;coin c=1 of 2;coin d=1 of 2;coin e=1 of 2;coin f=0 of 2;";
        sound(coins);
        faulty(coins + "coin g=1 of 2;", 97, 6);
        faulty(coins + "coin g=1 of 2", 97, 2);
        faulty(coins + "coin g=1 of 2?", 97, 1);
        faulty(coins + "coin g=3 of 2;", 96, 5);
        sound(coins + "die g=7 to 7;");
        faulty(coins + "die g=7 to 8;", 96, 6);
        sound("die a=1 to 8;die b=1 to 8;let c=a;");
        faulty("die a=1 to 8;die b=1 to 7;coin c=1 of 1;", 39, 6);
    }

    private static void faultsOfDepth() {
        String[] openers = {"(", "-", "fail ", "col 0[", "if ", "try ", "if 1 then ", "if 1 then 1 else ", "try 1 else "};
        for (String opener : openers) {
            String eight = "ask " + opener.repeat(8);
            int at = eight.length();
            faulty(eight + "(1", at, 7);
            faulty(eight + "-1", at, 7);
            faulty(eight + "if 1", at, 7);
            faulty(eight + "try 1", at, 7);
            faulty(eight + "fail 1", at, 7);
            faulty(eight + "col 0[1", at + 5, 7);
            faulty(eight + "1 ?", at + 2, 1);
        }
        sound("ask ((((((((1))))))));");
        sound("ask --------1;");
        faulty("ask ---------1;", 12, 7);
        sound("ask --------1--------1;");
        sound("ask ((((((((1))))))))+((((((((1))))))));");
        sound("ask -(-(-(-(1))))*fail fail 1;");
        faulty("ask -(-(-(-(-1))));", 12, 7);
        sound("ask (-1)*(((((((-1)))))));");
        sound("ask if ((((((1)))))) then ((((((1)))))) else ((((((1))))))=(1);");
        faulty("ask if 1 then 2 else ((((((((1))))))));", 28, 7);
        sound("ask (((((((col 0[1])))))));");
        faulty("ask ((((((((col 6[1]))))))));", 16, 5);
        faulty("ask ((((((((col 0[1]))))))));", 17, 7);
    }

    private static void goesOn(String exp, long want) {
        AnswerSlices x = Due.of("ask " + exp + ";");
        Due.asked("10: " + exp, x, x.value(0, 0), want);
    }

    /** What can go on, goes on; what binds stronger. */
    private static void goingOn() {
        goesOn("1+2*3-4", 3);
        goesOn("7-2-1", 4);
        goesOn("100/5/2", 10);
        goesOn("1+1<2+1", 1);
        goesOn("-2*3", -6);
        goesOn("2*-3+1", -5);
        goesOn("if 1 then 5 else 2+10", 5);
        goesOn("if 0 then 5 else 2+10", 12);
        goesOn("2*if 0 then 5 else 2+10", 24);
        goesOn("if 0 then 1 else 2<3", 1);
        goesOn("5+if 0 then 1 else 3<2<6", 1);
        goesOn("try 1 else 2+10", 1);
        goesOn("try fail 1 else 2*10=20", 1);
        goesOn("try if 1 then 2 else 3 else 4", 2);
        goesOn("if try fail 1 else 0 then 2 else 3", 3);
        goesOn("-if 0 then 1 else 2+3", -5);
        goesOn("try fail 1+5 else 9", 9);
        goesOn("(if 1 then 2 else 3)+4", 6);
        goesOn("1" + "+1".repeat(147), 148);
        goesOn("2" + "*1".repeat(146), 2);
        goesOn("1+2*(1+2*(1+2*(1+2*(1+2*(1+2*(1+2*(1+2*3)))))))", 1023);
        goesOn("0<1+1*(".repeat(8) + "0<1+1*1" + ")".repeat(8), 1);
    }

    private static void statement() {
        AnswerSlices x = Due.of(" coin a=3 of 7; let b=a;die c=4 to 9;\nsee 1;ask b;let d=2;ask 4;see c;");
        int[][] want = {{0, 1, 0, 3, 7}, {2, 16, 0, 0, 0}, {1, 24, 1, 4, 6}, {3, 38, 0, 0, 0}, {4, 44, 0, 0, 0},
            {2, 50, 1, 0, 0}, {4, 58, 1, 0, 0}, {3, 64, 1, 0, 0}};
        for (int s = 0; s < want.length; s++) {
            for (int what = 0; what < 5; what++) {
                Due.due("12: statement(" + s + ", " + what + ")", x.statement(s, what), want[s][what]);
            }
            Due.due("12: what", x.statement(s, 5), BAD);
            Due.due("12: what", x.statement(s, -1), BAD);
        }
        for (int s : new int[] {-1, 8, 16, Integer.MAX_VALUE, Integer.MIN_VALUE}) {
            Due.due("12: s", x.statement(s, 0), BAD);
        }
        Due.due("12: no text", new AnswerSlices().statement(0, 0), BAD);
    }

    private static void count() {
        AnswerSlices x = Due.of("coin a=0 of 7;die c=4 to 9;let b=a;see 1;ask b;ask 4;ask col 0[1]<2;");
        int[] want = {7, 2, 1, 1, 3, 12, 7 + 7 + 5 + 3 + 3 + 3 + 9};
        for (int what = 0; what < want.length; what++) Due.due("13: count(" + what + ")", x.count(what), want[what]);
        Due.type(x, "abc");
        Due.due("13: bytes of the tape", x.count(13), 3);
        Due.due("13: no runs yet", x.count(7), 0);
        x.kept();
        Due.due("13: six worked, the rest is of weight 0", x.count(7), 6);
        for (int what = 8; what <= 12; what++) Due.due("13: count(" + what + ")", x.count(what), 0);
        for (int what : new int[] {-1, 14, Integer.MIN_VALUE, Integer.MAX_VALUE}) {
            Due.due("13: what", x.count(what), BAD);
        }
        Due.due("13: without draws", Due.of("ask 1;").count(5), 1);
        Due.due("13: without a text", new AnswerSlices().count(5), 0);
    }
}
