import java.util.ArrayList;
import java.util.List;
import java.util.Random;

/** Makes short texts by chance: most of them sound, some with a byte or a token changed. */
final class TextMaker {
    private static final String[] STRAYS = {";", "=", "<", "+", "-", "*", "/", "(", ")", "[", "]", "coin", "die", "let",
        "see", "ask", "of", "to", "col", "if", "then", "else", "try", "fail", "zz", "7", "13", "999999", "1234567",
        "abcdefg", "A", "\t", "\u00e9", "0", "a", "b"};
    private final Random random;
    private final List<String> tokens = new ArrayList<>();
    private final List<String> names = new ArrayList<>();
    /** Whether its texts FAIL often, so that a run of calls becomes FULL. */
    private final boolean grim;
    private int runs;

    TextMaker(Random random) {
        this.random = random;
        grim = random.nextInt(5) == 0;
    }

    String make() {
        tokens.clear();
        names.clear();
        runs = 1;
        int statements = 1 + random.nextInt(random.nextInt(6) == 0 ? 18 : 9);
        for (int s = 0; s < statements; s++) statement(s);
        if (random.nextInt(3) > 0) see();
        if (random.nextInt(8) > 0) ask();
        if (random.nextInt(4) == 0) spoil();
        StringBuilder text = new StringBuilder();
        for (String token : tokens) {
            boolean touching = text.length() > 0 && Character.isLetterOrDigit(text.charAt(text.length() - 1))
                && Character.isLetterOrDigit(token.charAt(0));
            boolean blank = touching ? random.nextInt(200) > 0 : random.nextInt(8) == 0;
            if (blank) text.append(random.nextInt(9) == 0 ? '\n' : ' ');
            text.append(token);
        }
        return text.toString();
    }

    private void add(String... more) {
        tokens.addAll(List.of(more));
    }

    private void spoil() {
        int at = random.nextInt(tokens.size());
        String stray = STRAYS[random.nextInt(STRAYS.length)];
        switch (random.nextInt(4)) {
            case 0 -> tokens.set(at, stray);
            case 1 -> tokens.add(at, stray);
            case 2 -> tokens.remove(at);
            default -> tokens.subList(at, tokens.size()).clear();
        }
    }

    private String newName() {
        if (!names.isEmpty() && random.nextInt(40) == 0) return names.get(0);
        return "" + (char) ('a' + names.size()) + (random.nextInt(4) == 0 ? "" + random.nextInt(100) : "");
    }

    private void statement(int s) {
        int pick = s < 3 ? random.nextInt(3) : random.nextInt(8);
        if (pick == 0 && (runs <= 32 || random.nextInt(20) == 0)) {
            coin();
        } else if (pick == 1 && (runs <= 16 || random.nextInt(20) == 0)) {
            die();
        } else if (pick <= 3) {
            String name = newName();
            add("let", name, "=");
            exp(0);
            names.add(name);
            add(";");
        } else if (pick == 4) {
            see();
        } else {
            ask();
        }
    }

    private void see() {
        add("see");
        exp(0);
        add(";");
    }

    private void ask() {
        add("ask");
        exp(0);
        add(";");
    }

    private void coin() {
        String name = newName();
        int b = 1 + random.nextInt(random.nextInt(9) == 0 ? 13 : 6);
        add("coin", name, "=", "" + random.nextInt(b + (random.nextInt(20) == 0 ? 3 : 1)), "of", "" + b, ";");
        names.add(name);
        runs *= 2;
    }

    private void die() {
        String name = newName();
        int low = random.nextInt(5);
        int n = random.nextInt(random.nextInt(20) == 0 ? 10 : 64 / runs > 4 ? 4 : 2);
        add("die", name, "=", "" + low, "to", "" + (low + n), ";");
        names.add(name);
        runs *= n + 1;
    }

    private void exp(int depth) {
        sum(depth);
        if (random.nextInt(4) == 0) {
            add(random.nextBoolean() ? "<" : "=");
            sum(depth);
        }
    }

    private void sum(int depth) {
        term(depth);
        while (random.nextInt(4) == 0) {
            add(random.nextBoolean() ? "+" : "-");
            term(depth);
        }
    }

    private void term(int depth) {
        factor(depth);
        while (random.nextInt(6) == 0) {
            add(random.nextBoolean() ? "*" : "/");
            factor(depth);
        }
    }

    private void factor(int depth) {
        if (grim && random.nextInt(3) == 0) {
            add("try", "fail", "1", "else");
        } else if (depth == 0 && random.nextInt(80) == 0) {
            for (int n = 5 + random.nextInt(5); n > 0; n--) add(random.nextInt(3) > 0 ? "-" : "fail");
        }
        int pick = random.nextInt(depth > 0 && random.nextInt(depth * 3) > 0 ? 10 : 20);
        if (pick < 7 && !names.isEmpty()) {
            add(names.get(random.nextInt(names.size())));
        } else if (pick < 10) {
            int number = random.nextInt(random.nextInt(12) == 0 ? 1000000 : 4);
            add(random.nextInt(400) == 0 ? "zz" : "" + number);
        } else if (pick < 12) {
            add("col", "" + random.nextInt(random.nextInt(60) == 0 ? 8 : 6), "[");
            exp(depth + 1);
            add("]");
        } else if (pick < 14) {
            add("(");
            exp(depth + 1);
            add(")");
        } else if (pick < 15) {
            add("fail");
            factor(depth + 1);
        } else if (pick < 16) {
            add("-");
            factor(depth + 1);
        } else if (pick < 18) {
            add("if");
            exp(depth + 1);
            add("then");
            exp(depth + 1);
            add("else");
            exp(depth + 1);
        } else {
            add("try");
            exp(depth + 1);
            add("else");
            exp(depth + 1);
        }
    }
}
