import com.sun.management.ThreadMXBean;
import java.lang.management.ManagementFactory;
import java.util.LinkedHashMap;
import java.util.Map;
import java.util.function.IntSupplier;

/** The room that a run takes: that of an object when it is made, and next to none by calls on one that is full. */
final class RoomTests extends KneeTest {
    private static final ThreadMXBean ROOM = (ThreadMXBean) ManagementFactory.getThreadMXBean();

    /** A number takes four bytes: the 7.3 million of a run are shared by its objects, some fifty of them at most. */
    private static final long OBJECT = 7_300_000L * 4 / 50;

    /** So few rounds that an object isn't asked more than 512 times. */
    private static final int ROUNDS = 40;

    private static int kept;

    public static void main(String[] args) {
        Suite suite = new Suite("RoomTests");
        suite.run("a new object", RoomTests::newObject);
        for (String name : new RoomTests().calls().keySet()) {
            suite.run("calls of " + name, () -> {
                rounds(name);
                Suite.same("at most a hundred bytes a round", true, rounds(name) <= 100 * ROUNDS);
            });
        }
        suite.close();
    }

    private static long rounds(String name) {
        IntSupplier call = new RoomTests().calls().get(name);
        long before = ROOM.getCurrentThreadAllocatedBytes();
        for (int i = 0; i < ROUNDS; i++) kept += call.getAsInt();
        return ROOM.getCurrentThreadAllocatedBytes() - before;
    }

    private static void newObject() {
        kept += new KneeOaths().is(2);
        long before = ROOM.getCurrentThreadAllocatedBytes();
        kept += new KneeOaths().is(2);
        Suite.same("bytes of an object", true, ROOM.getCurrentThreadAllocatedBytes() - before <= OBJECT);
    }

    /** All is told that can be; TEXT 0 rules by deep laws, TEXT 1 can be played again and again. */
    private void fill() {
        people(6);
        same(0, tell("wears if just(knee=1,size>4) then ((((((marks who)*2+1)*2)-3)/2)) else -marks(who) end;"
            + "aches if not just(day>5,not rain<3) then size*rain+since else marks marks who end;risk marks 0*100-age;"));
        same(1, tell("kneel 1;skate 2;day 2;kneel 3;day 2;"));
        k.by(0);
        for (int i = 0; i < 14; i++) k.swear(i < 6 ? i : 1 + i % 5, i < 6 ? (i + 1) % 6 : 0, i < 6 ? 1 : 0, 1 + i % 9);
        for (int i = 6; i < 14; i++) k.breaks(i);
        for (int i = 0; i < 6; i++) k.felt(0, i, 40 + i);
        for (int i = 0; i < 8; i++) {
            k.clash(i, 13 - i);
            k.word(1 + i, 20 + i);
            k.saw(i % 6, (i + 1) % 6);
            k.worn(i, 5);
        }
        k.day(20);
        k.image();
    }

    private int text() {
        k.end(0);
        k.feed(0x77656172, 0x73203120, 0x2b203220, 0x2a203320, 0x3b20203f);
        return k.text();
    }

    private Map<String, IntSupplier> calls() {
        fill();
        Map<String, IntSupplier> c = new LinkedHashMap<>();
        c.put("one", () -> k.one(1, 1));
        c.put("end, feed and text", this::text);
        c.put("fault", () -> k.fault(1));
        c.put("by", () -> k.by(0) ? 1 : 0);
        c.put("swear", () -> k.swear(0, 1, 0, 1));
        c.put("breaks and release", () -> k.breaks(13) || k.release(13) ? 1 : 0);
        c.put("strike", () -> k.strike(63));
        c.put("of, ofOath, is, about", () -> k.of(0, 3) + k.of(0, 4) + k.of(0, 5) + k.ofOath(13, 7) + k.ofOath(13, 8) + k.is(3) + k.about(9));
        c.put("book, ached, worstDay", () -> k.book(29, 2) + k.ached(-1) + k.worstDay());
        c.put("foretold", () -> k.foretold(60, 0) + k.foretold(60, -1));
        c.put("firstAche and fades", () -> k.firstAche(0) + k.fades(13));
        c.put("breaches, odds, nextAsked", () -> k.breaches(0, 0) + k.odds(13, true) + k.nextAsked(0));
        c.put("leastReleased", k::leastReleased);
        c.put("forged", () -> k.forged(0, 0, 9));
        c.put("inTime", () -> k.inTime(0) + k.inTime(1) + k.inTime(2));
        c.put("whom and ring", () -> k.whom(0) + k.ring());
        c.put("allSeen, known, together", () -> k.allSeen() + k.known(0) + k.together());
        c.put("copy", () -> k.copy(13, 5, 9999, true));
        c.put("whose, mostSworn, faithful", () -> k.whose() + k.mostSworn() + k.faithful());
        c.put("kneel and skate", () -> k.kneel(0) + k.skate(0, 0));
        c.put("day", () -> k.day(1));
        c.put("played", () -> k.played(1));
        c.put("undo", k::undo);
        c.put("years", () -> k.years(77, 40));
        c.put("image and back", () -> k.image() + k.back());
        c.put("felt, clash, word, saw, worn", () -> k.felt(-1, 0, 0) + k.felt(0, 5, 5) + k.clash(-1, 0) + k.clash(0, 1) + k.word(-1, 0)
            + k.word(1, 1) + k.saw(-1, 0) + k.saw(0, 1) + k.worn(-1, 0) + k.worn(0, 1));
        return c;
    }
}
