import java.util.Random;

/** Makes TEXTS for random runs: mostly right ones, some with a fault, and feeds texts to the tape. */
final class Words {
    private static final String[] NAMES = {"day", "rain", "tough", "age", "who", "size", "knee", "wear", "since", "by"};
    private static final String[] SIGNS = {"<", "<=", ">", ">=", "=", "#"};
    private static final String[] STRAYS = {"wears", "aches", "risk", "one", "swear", "to", "left", "right", "break",
        "release", "kneel", "skate", "day", "marks", "if", "then", "else", "end", "or", "and", "not", "just", "(", ")",
        "-", "+", "*", "/", ",", ";", "<", "<=", "=>", "=", "#", "0", "9", "14", "60", "61", "100", "9999", "10000",
        "007", "99999999999999999999", "$", "Day", "wearss", "\t", "\n", "x", "\u00e9", "\0", "size", "wear", "since"};

    private final Random random;
    private boolean risk;

    Words(Random random) {
        this.random = random;
    }

    static void feed(KneeOaths k, String text) {
        int left = text.length();
        int before = k.about(9);
        for (int at = 0; at < text.length(); at += 20) {
            int[] v = new int[5];
            for (int i = 0; i < 20; i++) v[i / 4] = v[i / 4] << 8 | (at + i < text.length() ? text.charAt(at + i) & 255 : 0);
            k.feed(v[0], v[1], v[2], v[3], v[4]);
        }
        k.end(before + left);
    }

    /** The tape is emptied first; the number of the text, or NONE. */
    static int tell(KneeOaths k, String text) {
        k.end(0);
        feed(k, text);
        return k.text();
    }

    private int up(int n) {
        return random.nextInt(n);
    }

    String sum(int deep) {
        StringBuilder s = new StringBuilder(product(deep));
        for (int i = up(3) - 1; i > 0; i--) s.append(up(2) == 0 ? "+" : "-").append(product(deep));
        return s.toString();
    }

    private String product(int deep) {
        StringBuilder s = new StringBuilder(one(deep));
        for (int i = up(3) - 1; i > 0; i--) s.append(up(2) == 0 ? "*" : "/").append(one(deep));
        return s.toString();
    }

    private String one(int deep) {
        int kind = deep <= 0 ? up(6) : up(11);
        if (kind < 2) return up(4) == 0 ? "" + up(10000) : "" + up(12);
        if (kind < 6) return NAMES[up(risk && up(20) > 0 ? 5 : 10)];
        if (kind == 6) return "(" + sum(deep - 1) + ")";
        if (kind == 7) return "-" + one(deep - 1);
        if (kind == 8) return "marks " + one(deep - 1);
        return "if " + either(deep - 1) + " then " + sum(deep - 1) + " else " + sum(deep - 1) + " end";
    }

    private String either(int deep) {
        return up(5) == 0 ? both(deep) + " or " + both(deep) : both(deep);
    }

    private String both(int deep) {
        return up(5) == 0 ? ask(deep) + " and " + ask(deep) : ask(deep);
    }

    private String ask(int deep) {
        int kind = deep <= 0 ? 9 : up(10);
        if (kind == 0) return "not " + ask(deep - 1);
        if (kind < 3) {
            StringBuilder s = new StringBuilder("just(" + either(deep - 1));
            for (int i = up(4); i > 0; i--) s.append(",").append(either(deep - 1));
            return s.append(")").toString();
        }
        return sum(deep - 1) + SIGNS[up(6)] + sum(deep - 1);
    }

    private String law(String name) {
        risk = name.equals("risk");
        return name + " " + sum(up(5)) + ";";
    }

    private String deed() {
        switch (up(9)) {
            case 0: return "one " + up(10) + " age " + up(100) + ";";
            case 1:
            case 2: return "swear " + up(6) + " to " + up(6) + (up(2) == 0 ? " left " : " right ") + (1 + up(9)) + ";";
            case 3: return "break " + up(14) + ";";
            case 4: return "release " + up(14) + ";";
            case 5: return "kneel " + up(6) + ";";
            case 6: return "skate " + up(6) + ";";
            default: return "day " + (1 + up(up(2) == 0 ? 60 : 5)) + ";";
        }
    }

    String text() {
        StringBuilder s = new StringBuilder();
        if (up(30) == 0) {
            for (int i = 0; i < 20 + up(6); i++) s.append("day 60;");
        }
        if (up(3) > 0) s.append(law("wears"));
        if (up(3) > 0) s.append(law("aches"));
        if (up(3) == 0) s.append(law("risk"));
        for (int i = up(up(2) == 0 ? 4 : 12); i > 0; i--) s.append(deed());
        if (up(12) == 0) s.append(deep());
        for (int i = up(12) - 8; i > 0; i--) spoil(s);
        if (s.length() > 300) s.setLength(up(3) == 0 ? 300 : Math.max(0, s.lastIndexOf(";", 299) + 1));
        return s.toString();
    }

    /** A law about as deep, or with about as many in one just, as is allowed. */
    private String deep() {
        StringBuilder head = new StringBuilder((up(2) == 0 ? "wears " : "risk "));
        StringBuilder tail = new StringBuilder(";");
        boolean asking = false;
        for (int i = 5 + up(6); i > 0; i--) {
            int kind = asking ? 4 + up(3) : up(4);
            if (kind == 0) { head.append("("); tail.insert(0, ")"); }
            if (kind == 1) head.append("-");
            if (kind == 2) head.append("marks ");
            if (kind == 3) { head.append("if "); tail.insert(0, " then 1 else 2 end"); asking = true; }
            if (kind == 4) head.append("not ");
            if (kind == 5) { head.append("just("); tail.insert(0, ",1=1".repeat(up(8)) + ")"); }
            if (kind == 6) { tail.insert(0, "=1"); asking = false; }
        }
        return head.append(asking ? "1<2" : "1").append(tail).toString();
    }

    private void spoil(StringBuilder s) {
        int at = up(s.length() + 1);
        String stray = STRAYS[up(STRAYS.length)];
        if (up(3) == 0) s.insert(at, stray);
        else if (up(2) == 0) s.replace(at, Math.min(s.length(), at + up(4)), stray);
        else s.insert(at, " " + stray + " ");
    }
}
