import java.util.ArrayList;
import java.util.Arrays;
import java.util.HashSet;
import java.util.List;
import java.util.Set;

/** A TEXT read plainly: all TOKENS first, then a tree of what is to be worked out. */
final class PlainText {
    interface Case {
        long name(String name);

        long marks(long one);
    }

    interface Sum {
        long of(Case c);
    }

    interface Ask {
        boolean of(Case c);
    }

    static final class Fault extends Exception {
        private static final long serialVersionUID = 1;
        final int kind, place;

        Fault(int kind, int place) {
            super(kind + " at " + place);
            this.kind = kind;
            this.place = place;
        }
    }

    private record Token(String text, int place) {
    }

    /** 1 one, 2 swear, 3 break, 4 release, 5 kneel, 6 skate, 7 day, 0 a law; then the numbers. */
    final List<int[]> clauses = new ArrayList<>();
    Sum wears, aches, risk;

    private final List<Token> tokens = new ArrayList<>();
    private int next = 0;
    private int open = 0;
    private String law = "";

    private static final Set<String> NAMES =
        new HashSet<>(Arrays.asList("day", "rain", "tough", "age", "who", "size", "knee", "wear", "since", "by"));
    private static final Set<String> OATH_NAMES = new HashSet<>(Arrays.asList("size", "knee", "wear", "since", "by"));

    static PlainText read(List<Integer> bytes) throws Fault {
        PlainText t = new PlainText();
        StringBuilder s = new StringBuilder();
        for (int b : bytes) s.append((char) b);
        t.cut(s.toString());
        t.readClauses();
        return t;
    }

    private void cut(String s) {
        int i = 0;
        while (i < s.length()) {
            String rest = s.substring(i);
            if (rest.charAt(0) == 32 || rest.charAt(0) == 10) { i++; continue; }
            String token = first(rest, "^[a-zA-Z]+", "^[0-9]+", "^<=|^>=", "^[<>=#+\\-*/(),;]");
            tokens.add(new Token(token == null ? "?" : token, i));
            i += token == null ? 1 : token.length();
        }
        tokens.add(new Token("", s.length()));
    }

    private static String first(String s, String... patterns) {
        for (String p : patterns) {
            java.util.regex.Matcher m = java.util.regex.Pattern.compile(p).matcher(s);
            if (m.find()) return m.group();
        }
        return null;
    }

    private String peek() {
        return tokens.get(next).text;
    }

    private Fault fault(int kind) {
        return new Fault(kind, tokens.get(next).place);
    }

    private boolean take(String what) {
        if (!peek().equals(what)) return false;
        next++;
        return true;
    }

    private void need(String what) throws Fault {
        if (!take(what)) throw fault(1);
    }

    private boolean atNumber() {
        return !peek().isEmpty() && Character.isDigit(peek().charAt(0));
    }

    private int number(int least, int most) throws Fault {
        if (!atNumber()) throw fault(1);
        java.math.BigInteger v = new java.math.BigInteger(peek());
        if (v.compareTo(java.math.BigInteger.valueOf(most)) > 0 || v.intValue() < least) throw fault(2);
        next++;
        return v.intValue();
    }

    private void readClauses() throws Fault {
        while (!peek().isEmpty()) {
            String kind = peek();
            List<String> kinds = Arrays.asList("law", "one", "swear", "break", "release", "kneel", "skate", "day");
            boolean isLaw = kind.equals("wears") || kind.equals("aches") || kind.equals("risk");
            if (!isLaw && (kinds.indexOf(kind) < 1)) throw fault(1);
            if (kind.equals("wears") && wears != null || kind.equals("aches") && aches != null || kind.equals("risk") && risk != null) throw fault(4);
            if (clauses.size() == 24) throw fault(6);
            next++;
            if (isLaw) {
                law = kind;
                Sum sum = sum();
                if (kind.equals("wears")) wears = sum;
                if (kind.equals("aches")) aches = sum;
                if (kind.equals("risk")) risk = sum;
                clauses.add(new int[] {0});
            } else {
                clauses.add(deed(kind, kinds.indexOf(kind)));
            }
            need(";");
        }
    }

    private int[] deed(String kind, int number) throws Fault {
        switch (kind) {
            case "one": {
                int tough = number(0, 9);
                need("age");
                return new int[] {number, tough, number(0, 99)};
            }
            case "swear": {
                int by = number(0, 5);
                need("to");
                int on = number(0, 5);
                int knee = take("left") ? 0 : take("right") ? 1 : -1;
                if (knee < 0) throw fault(1);
                return new int[] {number, by, on, knee, number(1, 9)};
            }
            case "break":
            case "release": return new int[] {number, number(0, 13)};
            case "day": return new int[] {number, number(1, 60)};
            default: return new int[] {number, number(0, 5)};
        }
    }

    private static long held(long v) {
        return v > 1000000 ? 1000000 : v < -1000000 ? -1000000 : v;
    }

    private void openOne() throws Fault {
        if (open == 8) throw fault(3);
        open++;
        next++;
    }

    private Sum sum() throws Fault {
        Sum left = product();
        while (peek().equals("+") || peek().equals("-")) {
            boolean plus = tokens.get(next++).text.equals("+");
            Sum a = left, b = product();
            left = c -> held(plus ? a.of(c) + b.of(c) : a.of(c) - b.of(c));
        }
        return left;
    }

    private Sum product() throws Fault {
        Sum left = one();
        while (peek().equals("*") || peek().equals("/")) {
            boolean times = tokens.get(next++).text.equals("*");
            Sum a = left, b = one();
            left = c -> held(times ? a.of(c) * b.of(c) : b.of(c) == 0 ? 0 : a.of(c) / b.of(c));
        }
        return left;
    }

    private Sum one() throws Fault {
        String token = peek();
        if (atNumber()) {
            int v = number(0, 9999);
            return c -> v;
        }
        if (NAMES.contains(token)) {
            if (law.equals("risk") && OATH_NAMES.contains(token)) throw fault(5);
            next++;
            return c -> c.name(token);
        }
        switch (token) {
            case "(": {
                openOne();
                Sum s = sum();
                need(")");
                open--;
                return s;
            }
            case "-": {
                openOne();
                Sum s = one();
                open--;
                return c -> -s.of(c);
            }
            case "marks": {
                openOne();
                Sum s = one();
                open--;
                return c -> c.marks(s.of(c));
            }
            case "if": {
                openOne();
                Ask ask = either();
                need("then");
                Sum yes = sum();
                need("else");
                Sum no = sum();
                need("end");
                open--;
                return c -> ask.of(c) ? yes.of(c) : no.of(c);
            }
            default: throw fault(1);
        }
    }

    private Ask either() throws Fault {
        List<Ask> parts = new ArrayList<>();
        do parts.add(both()); while (take("or"));
        return c -> parts.stream().anyMatch(p -> p.of(c));
    }

    private Ask both() throws Fault {
        List<Ask> parts = new ArrayList<>();
        do parts.add(ask()); while (take("and"));
        return c -> parts.stream().allMatch(p -> p.of(c));
    }

    private Ask ask() throws Fault {
        if (peek().equals("not")) {
            openOne();
            Ask a = ask();
            open--;
            return c -> !a.of(c);
        }
        if (peek().equals("just")) {
            openOne();
            need("(");
            List<Ask> parts = new ArrayList<>();
            parts.add(either());
            while (peek().equals(",")) {
                if (parts.size() == 6) throw fault(7);
                next++;
                parts.add(either());
            }
            need(")");
            open--;
            return c -> parts.stream().filter(p -> p.of(c)).count() == 1;
        }
        Sum left = sum();
        String sign = peek();
        if (!Arrays.asList("<", "<=", ">", ">=", "=", "#").contains(sign)) throw fault(1);
        next++;
        Sum right = sum();
        return c -> {
            int order = Long.compare(left.of(c), right.of(c));
            switch (sign) {
                case "<": return order < 0;
                case "<=": return order <= 0;
                case ">": return order > 0;
                case ">=": return order >= 0;
                case "=": return order == 0;
                default: return order != 0;
            }
        };
    }
}
