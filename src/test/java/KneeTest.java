import java.util.Arrays;
import java.util.function.BooleanSupplier;
import java.util.function.IntSupplier;

/** What the tests of one object share: a new object, and short ways to tell it things and to hold answers. */
abstract class KneeTest {
    static final int LOWEST = Integer.MIN_VALUE;
    static final int HIGHEST = Integer.MAX_VALUE;

    final KneeOaths k = new KneeOaths();

    static void same(int due, int got) {
        Suite.same("answer", due, got);
    }

    static void yes(boolean got) {
        Suite.same("answer", true, got);
    }

    static void no(boolean got) {
        Suite.same("answer", false, got);
    }

    /** Answers for all numbers told, in a row. */
    static void row(String what, int[] got, int... due) {
        Suite.same(what, Arrays.toString(due), Arrays.toString(got));
    }

    static int[] all(int... answers) {
        return answers;
    }

    final int[] aboutAll() {
        int[] all = new int[10];
        for (int i = 0; i < 10; i++) all[i] = k.about(i);
        return all;
    }

    final int[] oath(int number) {
        int[] all = new int[9];
        for (int i = 0; i < 9; i++) all[i] = k.ofOath(number, i);
        return all;
    }

    /** The same thing told of each OATH. */
    final int[] oaths(int what) {
        int[] all = new int[k.is(3)];
        for (int i = 0; i < all.length; i++) all[i] = k.ofOath(i, what);
        return all;
    }

    final int[] entry(int number) {
        return all(k.book(number, 0), k.book(number, 1), k.book(number, 2));
    }

    /** TOUGH 5, 5, 5 .. and AGE 20, 21, 22 .. */
    final void people(int n) {
        for (int i = 0; i < n; i++) k.one(5, 20 + i);
    }

    final void days(int n) {
        for (int left = n; left > 0; left -= 60) k.day(Math.min(left, 60));
    }

    final void skates(int times, int one, int knee) {
        for (int i = 0; i < times; i++) k.skate(one, knee);
    }

    final int tell(String text) {
        return Words.tell(k, text);
    }

    /** The text rules then. */
    final void rule(String text) {
        yes(k.by(tell(text)));
    }

    final void fault(int kind, int place, String text) {
        int texts = k.about(1);
        same(-1, tell(text));
        same(texts, k.about(1));
        row(text, all(k.fault(0), k.fault(1)), kind, place);
    }

    static void fine(String text) {
        KneeOaths other = new KneeOaths();
        same(0, Words.tell(other, text));
        row(text, all(other.fault(0), other.fault(1)), 0, -1);
    }

    /** Three in a ring, on right KNEES, and one on a left one: OATHS 0 on 1, 2 on 0, 1 on 2; 1 on 0. */
    final void threeInARing() {
        people(4);
        k.swear(0, 1, 1, 5);
        k.swear(2, 0, 1, 4);
        k.swear(1, 2, 1, 3);
        k.swear(1, 0, 0, 9);
    }

    /** What a call that is refused leaves as it is; some hundred calls. */
    private String picture() {
        StringBuilder s = new StringBuilder(Arrays.toString(aboutAll()));
        for (int i = 0; i < 4; i++) s.append(' ').append(k.is(i));
        for (int i = 2; i < 6; i++) s.append(' ').append(Arrays.toString(oaths(i)));
        for (int one = 0; one < k.about(0); one++) s.append(' ').append(k.of(one, 0)).append(' ').append(k.of(one, 5));
        return s.append(' ').append(k.book(-1, 0)).append(' ').append(k.ached(-1)).toString();
    }

    /** Each call has this answer, and nothing is changed by any. */
    final void refused(int due, IntSupplier... calls) {
        String before = picture();
        for (int i = 0; i < calls.length; i++) Suite.same("call " + i, due, calls[i].getAsInt());
        Suite.same("all as it was", before, picture());
    }

    final void denied(BooleanSupplier... calls) {
        String before = picture();
        for (int i = 0; i < calls.length; i++) Suite.same("call " + i, false, calls[i].getAsBoolean());
        Suite.same("all as it was", before, picture());
    }
}
