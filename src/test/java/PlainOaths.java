import java.util.ArrayDeque;
import java.util.ArrayList;
import java.util.Deque;
import java.util.Iterator;
import java.util.List;

/**
 * The document told once more, as plainly as can be: lists, trees and trials of all there is, copied whole
 * wherever something is taken back. ModelTests holds KneeOaths against it.
 */
final class PlainOaths {
    static final class Oath {
        int by, on, knee, size, day, state, wear;

        Oath copy() {
            Oath o = new Oath();
            o.by = by; o.on = on; o.knee = knee; o.size = size; o.day = day; o.state = state; o.wear = wear;
            return o;
        }

        boolean legible() {
            return wear < 99 && state != 2;
        }
    }

    static final class State {
        List<Oath> oaths = new ArrayList<>();
        List<int[]> book = new ArrayList<>();
        int day, rain, x = 137;

        State copy() {
            State s = new State();
            for (Oath o : oaths) s.oaths.add(o.copy());
            for (int[] row : book) s.book.add(row.clone());
            s.day = day; s.rain = rain; s.x = x;
            return s;
        }

        int draw() {
            int was = x;
            x = Math.floorMod(x * 367 + 241, 30449);
            return was;
        }
    }

    static final class All {
        State state = new State();
        Deque<State> steps = new ArrayDeque<>();
        List<int[]> people = new ArrayList<>();
        List<PlainText> texts = new ArrayList<>();
        int ruling = -1;
        List<int[]> felt = new ArrayList<>(), clashes = new ArrayList<>(), words = new ArrayList<>();
        List<int[]> sights = new ArrayList<>(), worn = new ArrayList<>();

        All copy() {
            All a = new All();
            a.state = state.copy();
            for (State s : steps) a.steps.addLast(s.copy());
            a.people.addAll(people);
            a.texts.addAll(texts);
            a.ruling = ruling;
            a.felt.addAll(felt);
            a.clashes.addAll(clashes);
            a.words.addAll(words);
            a.sights.addAll(sights);
            a.worn.addAll(worn);
            return a;
        }
    }

    private All all = new All();
    private All image = new All();
    private final List<Integer> tape = new ArrayList<>();
    private int[] fault = null;

    // --- laws ---

    private final class Case implements PlainText.Case {
        final State state;
        final int rain, who;
        final Oath oath;

        Case(State state, int rain, int who, Oath oath) {
            this.state = state;
            this.rain = rain;
            this.who = who;
            this.oath = oath;
        }

        public long name(String name) {
            switch (name) {
                case "day": return state.day;
                case "rain": return rain;
                case "tough": return all.people.get(who)[0];
                case "age": return all.people.get(who)[1];
                case "who": return who;
                case "size": return oath.size;
                case "knee": return oath.knee;
                case "wear": return oath.wear;
                case "since": return state.day - oath.day;
                case "by": return oath.by;
                default: throw new IllegalStateException(name);
            }
        }

        public long marks(long one) {
            return one < 0 || one >= all.people.size() ? 0 : legibleOn(state, (int) one).size();
        }
    }

    private List<Integer> legibleOn(State s, int one) {
        List<Integer> found = new ArrayList<>();
        for (int i = 0; i < s.oaths.size(); i++) {
            if (s.oaths.get(i).on == one && s.oaths.get(i).legible()) found.add(i);
        }
        return found;
    }

    private PlainText ruling() {
        return all.ruling < 0 ? null : all.texts.get(all.ruling);
    }

    private static int clamp(long v, int most) {
        return v < 0 ? 0 : v > most ? most : (int) v;
    }

    private int wears(PlainText text, State s, Oath o) {
        if (text == null || text.wears == null) return 10 - all.people.get(o.on)[0];
        return clamp(text.wears.of(new Case(s, s.rain, o.on, o)), 99);
    }

    private int aches(State s, int rain, Oath o) {
        if (ruling() == null || ruling().aches == null) return o.size * rain / 10;
        return clamp(ruling().aches.of(new Case(s, rain, o.on, o)), 99);
    }

    private int risk(State s, int one) {
        if (ruling() == null || ruling().risk == null) {
            return clamp(10L * legibleOn(s, one).size() - all.people.get(one)[0], 9999);
        }
        return clamp(ruling().risk.of(new Case(s, s.rain, one, null)), 9999);
    }

    private int ache(State s, int one) {
        int sum = 0;
        for (int i : legibleOn(s, one)) {
            if (s.oaths.get(i).state == 1) sum += aches(s, s.rain, s.oaths.get(i));
        }
        return sum;
    }

    private boolean person(int one) {
        return one >= 0 && one < all.people.size();
    }

    private boolean sworn(int oath) {
        return oath >= 0 && oath < all.state.oaths.size();
    }

    // --- deeds: each on a state, true if it can be ---

    private boolean doSwear(State s, int by, int on, int knee, int size) {
        if (!person(by) || !person(on) || by == on || s.oaths.size() == 14) return false;
        if (knee < 0 || knee > 1 || size < 1 || size > 9) return false;
        Oath o = new Oath();
        o.by = by; o.on = on; o.knee = knee; o.size = size; o.day = s.day;
        s.oaths.add(o);
        return true;
    }

    private boolean doBreak(State s, int oath) {
        if (oath < 0 || oath >= s.oaths.size() || s.oaths.get(oath).state != 0) return false;
        s.oaths.get(oath).state = 1;
        return true;
    }

    private boolean doRelease(State s, int oath) {
        if (oath < 0 || oath >= s.oaths.size() || s.oaths.get(oath).state == 2) return false;
        s.oaths.get(oath).state = 2;
        return true;
    }

    private boolean doKneel(State s, int one) {
        if (!person(one)) return false;
        State before = s.copy();
        for (int i = 0; i < s.oaths.size(); i++) {
            Oath o = s.oaths.get(i);
            if (o.on == one && o.state != 2) o.wear = Math.min(99, o.wear + wears(ruling(), before, before.oaths.get(i)));
        }
        return true;
    }

    private boolean doSkate(State s, int one, int knee) {
        if (!person(one) || knee < 0 || knee > 1) return false;
        for (Oath o : s.oaths) {
            if (o.on == one && o.knee == knee) o.wear = Math.min(99, o.wear + 30);
        }
        return true;
    }

    private boolean doDay(State s) {
        if (s.day == 9999) return false;
        for (int one = 0; one < all.people.size(); one++) {
            int a = ache(s, one);
            if (a > 0) s.book.add(new int[] {s.day, one, a});
            if (s.book.size() > 30) s.book.remove(0);
        }
        s.day++;
        s.rain = s.draw() % 10;
        return true;
    }

    private interface Deed {
        boolean on(State s);
    }

    private boolean step(Deed deed) {
        State before = all.state.copy();
        if (!deed.on(all.state)) return false;
        all.steps.addLast(before);
        if (all.steps.size() > 30) all.steps.removeFirst();
        return true;
    }

    private boolean isRing(int bits) {
        if (bits <= 0 || bits >= 1 << all.state.oaths.size()) return false;
        int n = all.people.size();
        int[] out = new int[n], in = new int[n], root = new int[n];
        for (int i = 0; i < n; i++) root[i] = i;
        int first = -1;
        for (int i = 0; i < 14; i++) {
            if ((bits >> i & 1) == 0) continue;
            Oath o = all.state.oaths.get(i);
            if (o.state != 0 || !o.legible() || o.knee != 1) return false;
            out[o.by]++;
            in[o.on]++;
            int from = root[o.by], to = root[o.on];
            for (int j = 0; j < n; j++) if (root[j] == from) root[j] = to;
            first = o.on;
        }
        for (int i = 0; i < n; i++) {
            if (out[i] != in[i] || out[i] > 1) return false;
            if (out[i] == 1 && root[i] != root[first]) return false;
        }
        return true;
    }

    // --- the face ---

    int one(int tough, int age) {
        if (all.people.size() == 6 || tough < 0 || tough > 9 || age < 0 || age > 99) return -1;
        all.people.add(new int[] {tough, age});
        return all.people.size() - 1;
    }

    int feed(int a, int b, int c, int d, int e) {
        if (tape.size() > 280) return -1;
        for (int v : new int[] {a, b, c, d, e}) {
            tape.add(v >>> 24);
            tape.add(v >>> 16 & 255);
            tape.add(v >>> 8 & 255);
            tape.add(v & 255);
        }
        return tape.size();
    }

    int end(int n) {
        if (n < 0 || n > tape.size()) return -1;
        while (tape.size() > n) tape.remove(tape.size() - 1);
        return n;
    }

    int text() {
        if (all.texts.size() == 4) return -1;
        try {
            all.texts.add(PlainText.read(tape));
            fault = new int[] {0, -1};
            return all.texts.size() - 1;
        } catch (PlainText.Fault f) {
            fault = new int[] {f.kind, f.place};
            return -1;
        } finally {
            tape.clear();
        }
    }

    int fault(int what) {
        return fault == null || what < 0 || what > 1 ? -1 : fault[what];
    }

    boolean by(int text) {
        if (text < -1 || text >= all.texts.size()) return false;
        all.ruling = text;
        return true;
    }

    int swear(int by, int on, int knee, int size) {
        return step(s -> doSwear(s, by, on, knee, size)) ? all.state.oaths.size() - 1 : -1;
    }

    boolean breaks(int oath) {
        return step(s -> doBreak(s, oath));
    }

    boolean release(int oath) {
        return step(s -> doRelease(s, oath));
    }

    int kneel(int one) {
        return step(s -> doKneel(s, one)) ? legibleOn(all.state, one).size() : -1;
    }

    int skate(int one, int knee) {
        return step(s -> doSkate(s, one, knee)) ? legibleOn(all.state, one).size() : -1;
    }

    int strike(int bits) {
        if (!isRing(bits)) return -1;
        int[] least = {9};
        for (int i = 0; i < 14; i++) if ((bits >> i & 1) != 0) least[0] = Math.min(least[0], all.state.oaths.get(i).size);
        step(s -> {
            for (int i = 0; i < 14; i++) {
                if ((bits >> i & 1) == 0) continue;
                s.oaths.get(i).size -= least[0];
                if (s.oaths.get(i).size == 0) s.oaths.get(i).state = 2;
            }
            return true;
        });
        return least[0];
    }

    int day(int n) {
        if (n < 1 || n > 60 || all.state.day > 9999 - n) return -1;
        for (int i = 0; i < n; i++) step(this::doDay);
        return all.state.rain;
    }

    int played(int text) {
        if (text < 0 || text >= all.texts.size()) return -2;
        List<int[]> clauses = all.texts.get(text).clauses;
        for (int i = 0; i < clauses.size(); i++) if (!play(clauses.get(i))) return i;
        return -1;
    }

    private boolean play(int[] c) {
        switch (c[0]) {
            case 1: return one(c[1], c[2]) >= 0;
            case 2: return swear(c[1], c[2], c[3], c[4]) >= 0;
            case 3: return breaks(c[1]);
            case 4: return release(c[1]);
            case 5: return kneel(c[1]) >= 0;
            case 6: return skate(c[1], 0) >= 0;
            case 7:
                for (int i = 0; i < c[1]; i++) if (!step(this::doDay)) return false;
                return true;
            default: return true;
        }
    }

    int years(int seed, int n) {
        if (seed < 0 || seed > 9999 || n < 1 || n > 40 || all.people.isEmpty()) return -1;
        step(s -> {
            s.x = seed * 2 + 137;
            for (int i = 0; i < n; i++) live(s, s.draw());
            return true;
        });
        return all.state.day;
    }

    private void live(State s, int x) {
        int p = all.people.size(), o = s.oaths.size(), kind = x % 7;
        if (kind == 0) doSwear(s, x % p, x / 7 % p, x % 2, 1 + x % 9);
        if (kind == 1 && o > 0) doBreak(s, x % o);
        if (kind == 2 && o > 0 && x % 5 == 0) doRelease(s, x % o);
        if (kind == 3) doKneel(s, x % p);
        if (kind == 4 && x % 3 == 0) doSkate(s, x % p, x % 2);
        if (kind > 4) doDay(s);
    }

    int undo() {
        if (all.steps.isEmpty()) return -1;
        all.state = all.steps.removeLast();
        return all.steps.size();
    }

    int of(int one, int what) {
        if (!person(one) || what < 0 || what > 5) return -1000;
        if (what == 0) return all.people.get(one)[0];
        if (what == 1) return all.people.get(one)[1];
        if (what == 2) return legibleOn(all.state, one).size();
        if (what == 3) return ache(all.state, one);
        if (what == 4) return risk(all.state, one);
        int net = 0;
        for (Oath o : all.state.oaths) {
            if (o.state != 0 || o.knee != 1) continue;
            if (o.on == one) net += o.size;
            if (o.by == one) net -= o.size;
        }
        return net;
    }

    int ofOath(int oath, int what) {
        if (!sworn(oath) || what < 0 || what > 8) return -1;
        Oath o = all.state.oaths.get(oath);
        if (what == 7) return wears(ruling(), all.state, o);
        if (what == 8) return aches(all.state, all.state.rain, o);
        return new int[] {o.by, o.on, o.knee, o.size, o.state, o.wear, o.day}[what];
    }

    int is(int what) {
        if (what < 0 || what > 3) return -2;
        return new int[] {all.state.day, all.state.rain, all.state.x, all.state.oaths.size()}[what];
    }

    int book(int i, int what) {
        if (i == -1) return all.state.book.size();
        if (i < 0 || i >= all.state.book.size() || what < 0 || what > 2) return -2;
        return all.state.book.get(i)[what];
    }

    int foretold(int n, int one) {
        if (n < 1 || n > 60 || one != -1 && !person(one)) return -1;
        State s = all.state.copy();
        int sum = 0;
        for (int i = 0; i < n; i++) {
            int a = one == -1 ? 0 : ache(s, one);
            if (doDay(s)) sum += a;
        }
        return one == -1 ? s.rain : sum;
    }

    int firstAche(int one) {
        if (!person(one)) return -1;
        State s = all.state.copy();
        for (int n = 1; n <= 60; n++) {
            int a = ache(s, one);
            if (!doDay(s)) return -1;
            if (a > 0) return n;
        }
        return -1;
    }

    int fades(int oath) {
        if (!sworn(oath) || all.state.oaths.get(oath).state == 2) return -1;
        State s = all.state.copy();
        for (int n = 0; n <= 60; n++) {
            if (!s.oaths.get(oath).legible()) return n;
            if (s.day == 9999) return -1;
            doKneel(s, s.oaths.get(oath).on);
            doDay(s);
        }
        return -1;
    }

    private int tell(List<int[]> list, int most, int... row) {
        if (list.size() >= most) return -2;
        list.add(row);
        return list.size();
    }

    int felt(int one, int rain, int ache) {
        if (one == -1) { all.felt.clear(); return 0; }
        if (!person(one) || rain < 0 || rain > 9 || ache < 0 || ache > 999) return -2;
        return tell(all.felt, 6, one, rain, ache);
    }

    private List<Integer> breachSets(int one) {
        List<Integer> marks = legibleOn(all.state, one), sets = new ArrayList<>();
        for (int m = 0; m < 1 << marks.size(); m++) {
            boolean fits = true;
            for (int[] f : all.felt) {
                if (f[0] != one) continue;
                int sum = 0;
                for (int j = 0; j < marks.size(); j++) {
                    if ((m >> j & 1) != 0) sum += aches(all.state, f[1], all.state.oaths.get(marks.get(j)));
                }
                fits &= sum == f[2];
            }
            if (!fits) continue;
            int bits = 0;
            for (int j = 0; j < marks.size(); j++) if ((m >> j & 1) != 0) bits |= 1 << marks.get(j);
            sets.add(bits);
        }
        return sets;
    }

    private int legibleBitsOn(int one) {
        int bits = 0;
        for (int i : legibleOn(all.state, one)) bits |= 1 << i;
        return bits;
    }

    int breaches(int one, int what) {
        if (!person(one) || what < 0 || what > 2) return -1;
        List<Integer> sets = breachSets(one);
        if (what == 0) return sets.size();
        int sure = legibleBitsOn(one);
        for (int s : sets) sure &= what == 1 ? s : ~s;
        return sure;
    }

    private static int in(List<Integer> sets, int oath) {
        int n = 0;
        for (int s : sets) if ((s >> oath & 1) != 0) n++;
        return n;
    }

    int odds(int oath, boolean low) {
        if (!sworn(oath) || !all.state.oaths.get(oath).legible()) return -1;
        List<Integer> sets = breachSets(all.state.oaths.get(oath).on);
        if (sets.isEmpty()) return low ? 1 : 0;
        int up = in(sets, oath), down = sets.size();
        for (int d = down; d > 1; d--) {
            if (up % d == 0 && down % d == 0) { up /= d; down /= d; }
        }
        return low ? down : up;
    }

    int nextAsked(int one) {
        if (!person(one)) return -1;
        List<Integer> sets = breachSets(one);
        int best = -1;
        double nearest = 1e9;
        for (int oath : legibleOn(all.state, one)) {
            int n = in(sets, oath);
            double off = Math.abs(n - sets.size() / 2.0);
            if (n > 0 && n < sets.size() && off < nearest) { best = oath; nearest = off; }
        }
        return best;
    }

    int clash(int one, int other) {
        if (one == -1) { all.clashes.clear(); return 0; }
        if (!sworn(one) || !sworn(other) || one == other) return -2;
        return tell(all.clashes, 8, one, other);
    }

    private interface Trial {
        boolean fits(int set);
    }

    private static int fewest(int bits, Trial trial) {
        for (int size = 0; size <= bits; size++) {
            for (int m = 0; m < 1 << bits; m++) if (Integer.bitCount(m) == size && trial.fits(m)) return m;
        }
        throw new IllegalStateException();
    }

    int leastReleased() {
        return fewest(all.state.oaths.size(), m -> {
            for (int i = 0; i < all.state.oaths.size(); i++) {
                if ((m >> i & 1) != 0 && all.state.oaths.get(i).state != 0) return false;
            }
            for (int[] c : all.clashes) {
                if (!sworn(c[0]) || !sworn(c[1])) continue;
                boolean first = all.state.oaths.get(c[0]).state == 0 && (m >> c[0] & 1) == 0;
                boolean second = all.state.oaths.get(c[1]).state == 0 && (m >> c[1] & 1) == 0;
                if (first && second) return false;
            }
            return true;
        });
    }

    int forged(int one, int knee, int shown) {
        if (!person(one) || knee < 0 || knee > 1 || shown < 0 || shown > 99) return -1000;
        int n = shown;
        for (int i : legibleOn(all.state, one)) if (all.state.oaths.get(i).knee == knee) n--;
        return n;
    }

    int word(int work, int due) {
        if (work == -1) { all.words.clear(); return 0; }
        if (work < 1 || work > 99 || due < 0 || due > 999) return -2;
        return tell(all.words, 8, work, due);
    }

    private int workOf(int set) {
        int sum = 0;
        for (int i = 0; i < all.words.size(); i++) if ((set >> i & 1) != 0) sum += all.words.get(i)[0];
        return sum;
    }

    private boolean canBeKept(int set) {
        if (set == 0) return true;
        for (int last = 0; last < all.words.size(); last++) {
            if ((set >> last & 1) != 0 && workOf(set) <= all.words.get(last)[1] && canBeKept(set & ~(1 << last))) return true;
        }
        return false;
    }

    int inTime(int what) {
        if (what < 0 || what > 2) return -1;
        for (int size = all.words.size(); ; size--) {
            for (int m = 0; m < 1 << all.words.size(); m++) {
                if (Integer.bitCount(m) == size && canBeKept(m)) return what == 0 ? size : what == 1 ? m : workOf(m);
            }
        }
    }

    int whom(int but) {
        if (!person(but)) return -1;
        int best = -1;
        for (int one = all.people.size() - 1; one >= 0; one--) {
            if (one != but && (best == -1 || risk(all.state, one) <= risk(all.state, best))) best = one;
        }
        return best;
    }

    int ring() {
        for (int size = 2; size <= 6; size++) {
            for (int m = 0; m < 1 << all.state.oaths.size(); m++) if (Integer.bitCount(m) == size && isRing(m)) return m;
        }
        return 0;
    }

    int allSeen() {
        return fewest(all.people.size(), m -> {
            for (Oath o : all.state.oaths) if (o.legible() && (m >> o.by & 1) == 0 && (m >> o.on & 1) == 0) return false;
            return true;
        });
    }

    int saw(int tailor, int one) {
        if (tailor == -1) { all.sights.clear(); return 0; }
        if (!person(tailor) || !person(one) || tailor == one) return -2;
        return tell(all.sights, 8, tailor, one);
    }

    int known(int one) {
        if (!person(one)) return -1;
        int bits = legibleBitsOn(one);
        for (int[] s : all.sights) if (s[0] == one) bits |= legibleBitsOn(s[1]);
        for (int i = 0; i < all.state.oaths.size(); i++) {
            if (all.state.oaths.get(i).by == one && all.state.oaths.get(i).legible()) bits |= 1 << i;
        }
        return bits;
    }

    int together() {
        return fewest(all.people.size(), m -> {
            int bits = 0;
            for (int one = 0; one < all.people.size(); one++) if ((m >> one & 1) != 0) bits |= known(one);
            for (int i = 0; i < all.state.oaths.size(); i++) {
                if (all.state.oaths.get(i).legible() && (bits >> i & 1) == 0) return false;
            }
            return true;
        });
    }

    int copy(int oath, int c, int l, boolean cost) {
        if (!sworn(oath) || all.state.oaths.get(oath).state == 2 || c < 0 || c > 99 || l < 0 || l > 9999) return -100000;
        int f = fades(oath), best = 60, least = Integer.MAX_VALUE;
        for (int k = 60; k >= 0; k--) {
            int price = -c * k;
            if (f != -1 && k >= f) price += l;
            if (price <= least) { least = price; best = k; }
        }
        return cost ? least : best;
    }

    int worn(int oath, int more) {
        if (oath == -1) { all.worn.clear(); return 0; }
        if (!sworn(oath) || more < 0 || more > 99) return -2;
        return tell(all.worn, 8, oath, more);
    }

    int whose() {
        int bits = 0;
        for (int t = 0; t < all.texts.size(); t++) {
            boolean fits = true;
            for (int[] w : all.worn) {
                if (sworn(w[0])) fits &= wears(all.texts.get(t), all.state, all.state.oaths.get(w[0])) == w[1];
            }
            if (fits) bits |= 1 << t;
        }
        return bits;
    }

    int mostSworn() {
        int[] n = new int[6];
        for (Oath o : all.state.oaths) if (o.legible()) n[o.by]++;
        int best = -1;
        for (int one = 5; one >= 0; one--) if (n[one] > 0 && (best == -1 || n[one] >= n[best])) best = one;
        return best;
    }

    int faithful() {
        int bits = 0;
        for (int one = 0; one < all.people.size(); one++) {
            boolean broken = false;
            for (Oath o : all.state.oaths) broken |= o.by == one && o.state == 1;
            if (!broken) bits |= 1 << one;
        }
        return bits;
    }

    int ached(int one) {
        if (one != -1 && !person(one)) return -2;
        int sum = 0;
        for (int[] row : all.state.book) if (one == -1 || row[1] == one) sum += row[2];
        return sum;
    }

    int worstDay() {
        int[] worst = null;
        Iterator<int[]> rows = all.state.book.iterator();
        while (rows.hasNext()) {
            int[] row = rows.next();
            if (worst == null || row[2] > worst[2]) worst = row;
        }
        return worst == null ? -1 : worst[0];
    }

    int image() {
        image = all.copy();
        return all.state.day;
    }

    int back() {
        all = image.copy();
        return all.state.day;
    }

    int about(int what) {
        if (what < 0 || what > 9) return -2;
        return new int[] {all.people.size(), all.texts.size(), all.ruling, all.steps.size(), all.felt.size(),
            all.clashes.size(), all.words.size(), all.sights.size(), all.worn.size(), tape.size()}[what];
    }
}
