import java.lang.reflect.Method;
import java.lang.reflect.Modifier;
import java.util.ArrayList;
import java.util.Arrays;
import java.util.Comparator;
import java.util.HashMap;
import java.util.List;
import java.util.Map;
import java.util.Random;

/** Random runs of up to 512 calls, each answer held against PlainOaths. */
final class ModelTests {
    private static final int RUNS = Integer.getInteger("runs", 1500);

    private static final int TEXTS = Integer.getInteger("texts", 40000);

    private final Map<String, Method> real = new HashMap<>();
    private final Map<String, Method> plain = new HashMap<>();
    private final List<String> names = new ArrayList<>();
    private Random random;
    private int knee;

    private ModelTests() {
        for (Method m : KneeOaths.class.getDeclaredMethods()) {
            if (Modifier.isPublic(m.getModifiers())) {
                real.put(m.getName(), m);
                names.add(m.getName());
            }
        }
        names.sort(Comparator.naturalOrder());
        for (Method m : PlainOaths.class.getDeclaredMethods()) {
            if (real.containsKey(m.getName()) && !Modifier.isPrivate(m.getModifiers())) {
                m.setAccessible(true);
                plain.put(m.getName(), m);
            }
        }
    }

    public static void main(String[] args) throws Exception {
        ModelTests tests = new ModelTests();
        Suite suite = new Suite("ModelTests");
        suite.run("the plain model has the whole face", () -> Suite.same("methods", tests.real.keySet(), tests.plain.keySet()));
        long first = Long.getLong("seed", 1);
        for (int part = 0; part < 10; part++) {
            int from = part * RUNS / 10, to = (part + 1) * RUNS / 10;
            suite.run("random runs " + from + " to " + (to - 1), () -> {
                for (long run = from; run < to; run++) tests.oneRun(first * 1000003 + run);
            });
        }
        for (int part = 0; part < 4; part++) {
            int from = part * TEXTS / 4, to = (part + 1) * TEXTS / 4;
            suite.run("random texts " + from + " to " + (to - 1), () -> {
                for (int text = from; text < to; text += 20) tests.twentyTexts(first * 1000033 + text);
            });
        }
        suite.close();
    }

    private int up(int n) {
        return random.nextInt(n);
    }

    /** Mostly 0 to most, now and then one beside, seldom any int. */
    private int near(int least, int most) {
        int chance = up(60);
        if (chance == 0) return random.nextInt();
        if (chance == 1) return up(2) == 0 ? Integer.MIN_VALUE : Integer.MAX_VALUE;
        if (chance == 2) return least - 1;
        if (chance == 3) return most + 1;
        if (chance == 4) return up(2) == 0 ? least : most;
        return least + up(most - least + 1);
    }

    private int orNone(int value) {
        return up(25) == 0 ? -1 : value;
    }

    private int person(KneeOaths k) {
        return near(0, up(10) == 0 ? 5 : Math.max(0, k.about(0) - 1));
    }

    private int oath(KneeOaths k) {
        return near(0, up(10) == 0 ? 13 : Math.max(0, k.is(3) - 1));
    }

    private Object[] arguments(KneeOaths k, String name) {
        switch (name) {
            case "one": return of(near(0, 9), near(0, 99));
            case "end": return of(up(2) == 0 ? k.about(9) : near(0, 300));
            case "fault": return of(near(0, 1));
            case "by": return of(near(-1, k.about(1) - 1));
            case "swear": return of(person(k), person(k), up(4) > 0 ? knee : near(0, 1), near(1, 9));
            case "breaks":
            case "release":
            case "fades": return of(oath(k));
            case "kneel":
            case "firstAche":
            case "nextAsked":
            case "whom":
            case "known": return of(person(k));
            case "skate": return of(person(k), near(0, 1));
            case "strike": return of(up(3) > 0 ? k.ring() : near(0, (1 << k.is(3)) - 1));
            case "day": return of(up(3) == 0 ? near(1, 60) : near(1, 4));
            case "played": return of(near(0, Math.max(0, k.about(1) - 1)));
            case "years": return of(near(0, 9999), near(1, 40));
            case "of": return of(person(k), near(0, 5));
            case "ofOath": return of(oath(k), near(0, 8));
            case "is": return of(near(0, 3));
            case "book": return of(orNone(near(0, 29)), near(0, 2));
            case "foretold": return of(near(1, 60), orNone(person(k)));
            case "felt": return feeling(k);
            case "breaches": return of(person(k), near(0, 2));
            case "odds": return of(oath(k), random.nextBoolean());
            case "clash": return of(orNone(oath(k)), oath(k));
            case "forged": return of(person(k), near(0, 1), near(0, 99));
            case "word": return of(orNone(up(3) == 0 ? near(1, 99) : 1 + up(9)), up(3) == 0 ? near(0, 999) : up(40));
            case "inTime": return of(near(0, 2));
            case "saw": return of(orNone(person(k)), person(k));
            case "copy": return of(oath(k), near(0, 99), up(2) == 0 ? near(0, 9999) : up(600), random.nextBoolean());
            case "worn": return of(orNone(oath(k)), up(3) > 0 ? k.ofOath(oath(k), 7) : near(0, 99));
            case "ached": return of(orNone(person(k)));
            case "about": return of(near(0, 9));
            default: return of();
        }
    }

    /** Mostly an ache that some of the oaths would give. */
    private Object[] feeling(KneeOaths k) {
        int one = person(k);
        int sum = 0;
        for (int o = 0; o < k.is(3); o++) {
            if (k.ofOath(o, 1) == one && up(2) == 0) sum += k.ofOath(o, 8);
        }
        return of(orNone(one), up(3) > 0 ? k.is(1) : near(0, 9), up(4) > 0 ? sum : near(0, 999));
    }

    private static Object[] of(Object... values) {
        return values;
    }

    /** A run likes some calls more than others, so that runs come to unlike places. */
    private int[] likings() {
        int[] likings = new int[names.size()];
        for (int i = 0; i < likings.length; i++) likings[i] = 1 + up(6);
        String[] seldom = {"end", "feed", "text", "back", "image", "release", "undo", "skate"};
        for (String name : seldom) likings[names.indexOf(name)] = up(3);
        if (up(3) > 0) likings[names.indexOf("back")] = 0;
        likings[names.indexOf("swear")] += 6;
        likings[names.indexOf("one")] += 4;
        likings[names.indexOf("breaks")] += up(5);
        if (up(3) == 0) {
            String[] rough = {"years", "kneel", "skate", "release", "played", "breaks", "back", "undo", "strike"};
            for (String name : rough) likings[names.indexOf(name)] = up(4) == 0 ? 1 : 0;
            knee = 1;
            likings[names.indexOf("swear")] += 20;
            likings[names.indexOf("ring")] += 6;
            likings[names.indexOf("felt")] += 6;
            likings[names.indexOf("odds")] += 6;
        }
        return likings;
    }

    private void oneRun(long seed) throws Exception {
        random = new Random(seed);
        knee = up(2);
        KneeOaths k = new KneeOaths();
        PlainOaths p = new PlainOaths();
        Words words = new Words(random);
        StringBuilder tale = new StringBuilder();
        int[] likings = likings();
        int all = Arrays.stream(likings).sum();
        int calls = 0;
        boolean late = up(12) == 0;
        while (calls < 480) {
            if (late) {
                calls += tellText(k, p, "day 60;".repeat(24), tale, seed);
                for (int i = 0; i < 7; i++) calls += call(k, p, "played", of(k.about(1) - 1), tale, seed);
                late = false;
            } else if (up(25) == 0) {
                calls += tellText(k, p, words.text(), tale, seed);
                if (up(2) == 0) calls += call(k, p, "by", of(k.about(1) - 1), tale, seed);
                if (up(2) == 0) calls += call(k, p, "played", of(k.about(1) - 1), tale, seed);
            } else {
                int liked = up(all), i = 0;
                while (liked >= likings[i]) liked -= likings[i++];
                String name = names.get(i);
                Object[] args = name.equals("feed")
                    ? of(random.nextInt(), random.nextInt(), random.nextInt(), random.nextInt(), random.nextInt())
                    : arguments(k, name);
                calls += call(k, p, name, args, tale, seed);
            }
        }
    }

    private void twentyTexts(long seed) throws Exception {
        random = new Random(seed);
        Words words = new Words(random);
        KneeOaths k = new KneeOaths();
        PlainOaths p = new PlainOaths();
        for (int i = 0; i < 20; i++) {
            StringBuilder tale = new StringBuilder();
            tellText(k, p, words.text(), tale, seed);
            call(k, p, "back", of(), tale, seed);
        }
    }

    private int tellText(KneeOaths k, PlainOaths p, String text, StringBuilder tale, long seed) throws Exception {
        int calls = call(k, p, "end", of(0), tale, seed);
        for (int at = 0; at < text.length(); at += 20) {
            int[] v = new int[5];
            for (int i = 0; i < 20; i++) v[i / 4] = v[i / 4] << 8 | (at + i < text.length() ? text.charAt(at + i) & 255 : 32);
            calls += call(k, p, "feed", of(v[0], v[1], v[2], v[3], v[4]), tale, seed);
        }
        tale.append("   // ").append(text.replace("\n", "\\n")).append('\n');
        calls += call(k, p, "end", of(up(8) == 0 ? k.about(9) : text.length()), tale, seed);
        calls += call(k, p, "text", of(), tale, seed);
        calls += call(k, p, "fault", of(0), tale, seed);
        return calls + call(k, p, "fault", of(1), tale, seed);
    }

    private int call(KneeOaths k, PlainOaths p, String name, Object[] args, StringBuilder tale, long seed) throws Exception {
        tale.append(name).append(Arrays.toString(args));
        Object got = real.get(name).invoke(k, args);
        Object due = plain.get(name).invoke(p, args);
        tale.append(" -> ").append(got).append('\n');
        if (!got.equals(due)) {
            throw new AssertionError("seed " + seed + ": due is " + due + " in\n" + tale);
        }
        return 1;
    }
}
