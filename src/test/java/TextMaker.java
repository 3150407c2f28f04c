import java.util.Random;

/** Random texts of rules, sound ones and broken ones. */
final class TextMaker {
    private static final String[] NAMES = {"months", "wounds", "medals", "children", "battles", "craft", "age", "land", "bride", "day"};
    private static final String[] TOKENS = {
        "score", "low", "stay", "port", "if", "or", "and", "not", "months", "wounds", "medals", "children", "battles",
        "craft", "age", "land", "bride", "day", "<", "=", ">", "+", "-", "*", "/", "(", ")", "[", "]", ";", "0", "1", "7", "30",
        "9999", "12345", "00000", "0001", "scores", "lo", "x", "notnot", ",", "!", "A", "Score", "{", "\n", "\u0000", "\u00ff", "~", "`"
    };
    private final Random random;
    private final StringBuilder out = new StringBuilder();

    TextMaker(Random random) {
        this.random = random;
    }

    private int r(int n) {
        return random.nextInt(n);
    }

    String sound() {
        out.setLength(0);
        int lines = 1 + r(5);
        for (int i = 0; i < lines; i++) {
            if (i > 0) {
                add(";");
            }
            line();
        }
        return out.length() > 240 ? sound() : out.toString();
    }

    /** A rule under which some men are out and some are not. */
    String likely() {
        String[] scores = {"months", "months+5*wounds", "months/2+medals*3", "age-17+children*12", "battles*5+bride*8+craft", "day+land"};
        String s = "score " + scores[r(scores.length)] + ";low " + r(25);
        if (r(2) == 0) {
            s += ";score " + r(9) + " if " + NAMES[r(10)] + (r(2) == 0 ? "<" : ">") + r(12);
        }
        if (r(3) == 0) {
            s += ";stay craft=" + r(4);
        }
        if (r(3) == 0) {
            s += ";port " + r(4) + (r(2) == 0 ? " if age>" + (20 + r(20)) : "");
        }
        return s;
    }

    String broken() {
        String s = sound();
        int times = 1 + r(2);
        for (int i = 0; i < times; i++) {
            int at = r(s.length() + 1);
            switch (r(4)) {
                case 0: s = s.substring(0, at); break;
                case 1: s = s.substring(0, at) + TOKENS[r(TOKENS.length)] + s.substring(at); break;
                case 2: s = s.substring(0, at) + (at < s.length() ? s.substring(at + 1) : ""); break;
                default: s = s.substring(0, at) + " " + TOKENS[r(TOKENS.length)] + " " + s.substring(Math.min(s.length(), at + r(4)));
            }
        }
        return s.length() > 240 ? broken() : s;
    }

    String anything() {
        out.setLength(0);
        int n = r(14);
        for (int i = 0; i < n; i++) {
            add(TOKENS[r(TOKENS.length)]);
        }
        return out.length() > 240 ? anything() : out.toString();
    }

    /** About as deep as may be, or one deeper. */
    String deep() {
        out.setLength(0);
        add(r(2) == 0 ? "stay" : "score 1 if");
        int opened = 7 + r(4);
        StringBuilder closing = new StringBuilder();
        int i = 0;
        for (; i < opened && r(6) > 0; i++) {
            if (r(2) == 0) {
                add("not");
            } else {
                add("[");
                closing.insert(0, "]");
                if (r(3) == 0) {
                    add("age>" + r(60) + (r(2) == 0 ? " and " : " or "));
                }
            }
        }
        StringBuilder round = new StringBuilder();
        for (; i < opened; i++) {
            add("(");
            round.append(")");
            if (r(4) == 0) {
                add("2*");
            }
        }
        add("age" + round + "<" + r(60) + closing);
        return out.length() > 240 ? deep() : out.toString();
    }

    private void add(String token) {
        boolean joins = out.length() > 0 && Character.isLetterOrDigit(out.charAt(out.length() - 1)) && Character.isLetterOrDigit(token.charAt(0));
        boolean unlike = joins && Character.isDigit(out.charAt(out.length() - 1)) != Character.isDigit(token.charAt(0));
        if (joins && (!unlike || r(3) > 0) || r(8) == 0) {
            out.append(" ");
        }
        out.append(token);
    }

    private void line() {
        switch (r(7)) {
            case 0: case 1: add("score"); sum(2); break;
            case 2: add("score"); sum(2); add("if"); any(2); break;
            case 3: add("low"); sum(1); break;
            case 4: add("stay"); any(2); break;
            case 5: add("port"); add("" + r(5)); break;
            default: add("port"); add("" + r(5)); add("if"); any(1);
        }
    }

    private void any(int deep) {
        all(deep);
        while (r(4) == 0) {
            add("or");
            all(deep);
        }
    }

    private void all(int deep) {
        test(deep);
        while (r(4) == 0) {
            add("and");
            test(deep);
        }
    }

    private void test(int deep) {
        int kind = deep > 0 ? r(5) : 4;
        if (kind == 0) {
            add("not");
            test(deep - 1);
        } else if (kind == 1) {
            add("[");
            any(deep - 1);
            add("]");
        } else {
            sum(deep);
            add(new String[] {"<", "=", ">"}[r(3)]);
            sum(deep);
        }
    }

    private void sum(int deep) {
        product(deep);
        while (r(3) == 0) {
            add(r(2) == 0 ? "+" : "-");
            product(deep);
        }
    }

    private void product(int deep) {
        one(deep);
        while (r(4) == 0) {
            add(r(2) == 0 ? "*" : "/");
            one(deep);
        }
    }

    private void one(int deep) {
        int kind = r(6);
        if (kind == 0 && deep > 0) {
            add("(");
            sum(deep - 1);
            add(")");
        } else if (kind < 4) {
            add(NAMES[r(10)]);
        } else {
            add("" + (r(5) == 0 ? r(10000) : r(40)));
        }
    }
}
