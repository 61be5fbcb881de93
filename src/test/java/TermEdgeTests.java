/** Part I of the document: a test for each edge that a sentence there names. */
final class TermEdgeTests extends KneeTest {
    public static void main(String[] args) throws Exception {
        Edges.run(TermEdgeTests.class);
    }

    /** OATH 0 of 0 on 1's left KNEE with this WEAR; the law that wore it rules no more then. */
    private void wornBy(int wear) {
        people(2);
        k.swear(0, 1, 0, 9);
        if (wear > 0) {
            rule("wears " + wear + ";");
            k.kneel(1);
            k.by(-1);
        }
        same(wear, k.ofOath(0, 5));
    }

    // ---- what there is ----

    @Says("PEOPLE 0 .. 5 (told one by one)")
    void peopleAreSix() {
        for (int i = 0; i <= 5; i++) same(i, k.one(5, 5));
        refused(-1, () -> k.one(5, 5));
        same(5, k.of(5, 1));
        same(-1000, k.of(6, 1));
    }

    @Says("TOUGH 0 .. 9, AGE 0 .. 99. OATHS")
    void toughAndAgeHaveBounds() {
        refused(-1, () -> k.one(-1, 50), () -> k.one(10, 50), () -> k.one(5, -1), () -> k.one(5, 100));
        same(0, k.one(0, 99));
        same(1, k.one(9, 0));
        row("as told", all(k.of(0, 0), k.of(0, 1), k.of(1, 0), k.of(1, 1)), 0, 99, 9, 0);
    }

    @Says("OATHS 0 .. 13 (sworn one by one)")
    void oathsAreFourteen() {
        people(2);
        for (int i = 0; i <= 13; i++) same(i, k.swear(0, 1, 0, 1));
        same(14, k.is(3));
        row("none behind the last", all(k.ofOath(13, 0), k.ofOath(14, 0)), 0, -1);
    }

    @Says("BY one, ON another one")
    void nobodySwearsToItself() {
        people(3);
        refused(-1, () -> k.swear(0, 0, 0, 1), () -> k.swear(2, 2, 1, 9));
        same(0, k.swear(2, 1, 1, 9));
        row("by and on", all(k.ofOath(0, 0), k.ofOath(0, 1)), 2, 1);
    }

    @Says("KNEE 0 left, 1 right")
    void thereAreTwoKnees() {
        people(2);
        refused(-1, () -> k.swear(0, 1, -1, 1), () -> k.swear(0, 1, 2, 1));
        k.swear(0, 1, 0, 1);
        k.swear(0, 1, 1, 1);
        same(-1, k.played(tell("swear 0 to 1 left 1;swear 0 to 1 right 1;")));
        row("knees", oaths(2), 0, 1, 0, 1);
    }

    @Says("SIZE 1 .. 9, DAY;")
    void sizeHasBounds() {
        people(2);
        refused(-1, () -> k.swear(0, 1, 0, 0), () -> k.swear(0, 1, 0, 10), () -> k.swear(0, 1, 0, -1));
        k.swear(0, 1, 0, 1);
        k.swear(0, 1, 0, 9);
        row("sizes", oaths(3), 1, 9);
    }

    @Says("how it is: 0 kept, 1 broken, 2 released")
    void anOathIsKeptBrokenOrReleased() {
        people(2);
        for (int i = 0; i < 3; i++) k.swear(0, 1, 0, 1);
        k.breaks(1);
        k.release(2);
        row("how they are", oaths(4), 0, 1, 2);
    }

    @Says("WEAR 0 .. 99 (at 99 nobody can read it)")
    void at99NobodyCanReadIt() {
        wornBy(98);
        same(1, k.of(1, 2));
        rule("wears 1;");
        same(0, k.kneel(1));
        same(0, k.of(1, 2));
        same(0, k.kneel(1));
        same(99, k.ofOath(0, 5));
    }

    @Says("DAY 0 .. 9999 (at first 0)")
    void daysEndAt9999() {
        same(0, k.is(0));
        days(9998);
        same(9998, k.is(0));
        k.day(1);
        same(9999, k.is(0));
        refused(-1, () -> k.day(1));
    }

    @Says("RAIN of tomorrow 0 .. 9 (at first 0)")
    void rainIsADigit() {
        same(0, k.is(1));
        int fallen = 0;
        for (int i = 0; i < 100; i++) fallen |= 1 << k.day(1);
        same(1023, fallen);
    }

    @Says("X: at first 137")
    void xIs137AtFirst() {
        same(137, k.is(2));
        people(2);
        k.swear(0, 1, 0, 1);
        same(137, k.is(2));
    }

    @Says("BOOK (the latest 30 aches)")
    void theEldestAcheGoes() {
        people(2);
        k.swear(0, 1, 0, 1);
        k.breaks(0);
        rule("aches 1+day;");
        k.day(29);
        same(29, k.book(-1, 0));
        k.day(1);
        same(30, k.book(-1, 0));
        row("the first", entry(0), 0, 1, 1);
        k.day(1);
        same(30, k.book(-1, 0));
        row("the second is the eldest", entry(0), 1, 1, 2);
        row("the latest", entry(29), 30, 1, 31);
    }

    @Says("BOOK (the latest 30 aches): DAY, who, how much")
    void theLatestThirtyOfManyAches() {
        people(3);
        k.swear(0, 1, 0, 1);
        k.swear(0, 2, 0, 1);
        k.breaks(0);
        k.breaks(1);
        rule("aches 1+day-day/90*90;");
        days(95);
        row("the eldest", entry(0), 80, 1, 81);
        row("the next", entry(1), 80, 2, 81);
        row("the latest", entry(29), 94, 2, 5);
    }

    // ---- what can be read, sworn, broken, released ----

    @Says("LEGIBLE: an OATH whose WEAR is below 99")
    void wearOf98IsLegible() {
        wornBy(98);
        row("can be read", all(k.of(1, 2), k.fades(0), k.odds(0, true), k.mostSworn()), 1, 1, 2, 0);
        rule("wears 1;");
        k.kneel(1);
        row("can't", all(k.of(1, 2), k.fades(0), k.odds(0, true), k.mostSworn()), 0, 0, -1, -1);
    }

    @Says("and that isn't released. SWORN")
    void aReleasedOneIsNotLegible() {
        wornBy(0);
        k.swear(0, 1, 0, 1);
        k.breaks(1);
        same(2, k.of(1, 2));
        k.release(0);
        k.release(1);
        same(0, k.of(1, 2));
    }

    @Says("a new OATH of two unlike PEOPLE: kept, WEAR 0")
    void aNewOathIsKeptAndUnworn() {
        people(2);
        k.day(3);
        k.swear(0, 1, 1, 4);
        row("new", oath(0), 0, 1, 1, 4, 0, 0, 3, 5, 3);
    }

    @Says("(if there are fewer than 14)")
    void noneIsSwornBehindTheFourteenth() {
        people(2);
        for (int i = 0; i < 13; i++) k.swear(0, 1, 0, 1);
        k.release(0);
        k.release(1);
        same(13, k.swear(0, 1, 0, 1));
        refused(-1, () -> k.swear(0, 1, 0, 1));
        same(0, k.played(tell("swear 0 to 1 left 1;")));
        k.undo();
        same(13, k.swear(1, 0, 0, 1));
    }

    @Says("BROKEN: a kept one is broken.")
    void onlyAKeptOneIsBroken() {
        people(2);
        k.swear(0, 1, 0, 1);
        k.swear(0, 1, 0, 1);
        k.release(1);
        yes(k.breaks(0));
        denied(() -> k.breaks(0), () -> k.breaks(1));
    }

    @Says("RELEASED: one that isn't is released.")
    void keptAndBrokenOnesAreReleased() {
        people(2);
        k.swear(0, 1, 0, 1);
        k.swear(0, 1, 0, 1);
        k.breaks(1);
        yes(k.release(0));
        yes(k.release(1));
        row("both", oaths(4), 2, 2);
        denied(() -> k.release(0), () -> k.release(1));
    }

    // ---- what wears ----

    @Says("WEAR of all OATHS ON it that aren't released is more by wears")
    void kneelingLeavesReleasedOnesAndOthers() {
        people(3);
        k.swear(0, 1, 0, 1);
        k.swear(0, 1, 1, 1);
        k.swear(0, 1, 1, 1);
        k.swear(1, 2, 0, 1);
        k.breaks(1);
        k.release(2);
        k.kneel(1);
        row("kept and broken ones alone", oaths(5), 5, 5, 0, 0);
    }

    @Says("KNEELS: one: WEAR of all OATHS ON it")
    void fourteenAreWornByOneKneeling() {
        people(2);
        for (int i = 0; i < 14; i++) k.swear(0, 1, i % 2, 1);
        rule("wears 7;");
        same(14, k.kneel(1));
        row("all", oaths(5), 7, 7, 7, 7, 7, 7, 7, 7, 7, 7, 7, 7, 7, 7);
    }

    @Says("more by wears (99 at most)")
    void kneelingWearsTo99AtMost() {
        wornBy(90);
        rule("wears 9;");
        k.kneel(1);
        same(99, k.ofOath(0, 5));
        k.undo();
        rule("wears 10;");
        k.kneel(1);
        same(99, k.ofOath(0, 5));
        k.undo();
        rule("wears 8;");
        k.kneel(1);
        same(98, k.ofOath(0, 5));
    }

    @Says("WEAR of all OATHS ON that KNEE of it is 30 more")
    void skatingWearsOneKneeBy30() {
        people(3);
        k.swear(0, 1, 0, 1);
        k.swear(0, 1, 1, 1);
        k.swear(0, 2, 0, 1);
        k.swear(2, 1, 0, 1);
        k.breaks(3);
        k.skate(1, 0);
        row("on the left of 1", oaths(5), 30, 0, 0, 30);
    }

    @Says("SKATES: one, with a KNEE")
    void fourteenAreWornByOneSkating() {
        people(2);
        for (int i = 0; i < 14; i++) k.swear(0, 1, 1, 1);
        same(14, k.skate(1, 1));
        row("all", oaths(5), 30, 30, 30, 30, 30, 30, 30, 30, 30, 30, 30, 30, 30, 30);
        same(14, k.skate(1, 0));
        row("all", oaths(5), 30, 30, 30, 30, 30, 30, 30, 30, 30, 30, 30, 30, 30, 30);
    }

    @Says("30 more (99 at most)")
    void skatingWearsTo99AtMost() {
        wornBy(68);
        k.skate(1, 0);
        same(98, k.ofOath(0, 5));
        k.skate(1, 0);
        same(99, k.ofOath(0, 5));
        k.skate(1, 0);
        same(99, k.ofOath(0, 5));
    }

    // ---- what is struck out ----

    @Says("a RING of kept, LEGIBLE OATHS on right KNEES")
    void aRingIsOfKeptLegibleOnesOnTheRight() {
        threeInARing();
        k.swear(1, 0, 1, 2);
        k.swear(0, 1, 0, 2);
        refused(-1, () -> k.strike(1 + 8), () -> k.strike(32 + 16), () -> k.strike(32 + 8));
        k.breaks(4);
        same(-1, k.strike(1 + 16));
        k.undo();
        k.release(4);
        same(-1, k.strike(1 + 16));
        k.undo();
        rule("wears 99;");
        k.kneel(0);
        same(-1, k.strike(1 + 16));
        k.undo();
        same(2, k.strike(1 + 16));
    }

    @Says("each BY the one ON whom the next is, round and round")
    void aRingIsClosed() {
        threeInARing();
        k.swear(2, 3, 1, 1);
        refused(-1, () -> k.strike(3), () -> k.strike(1 + 4), () -> k.strike(1 + 4 + 16), () -> k.strike(7 + 16));
        same(3, k.strike(7));
    }

    @Says("no one in it twice")
    void nobodyIsInARingTwice() {
        people(3);
        k.swear(0, 1, 1, 1);
        k.swear(1, 0, 1, 1);
        k.swear(0, 2, 1, 1);
        k.swear(2, 0, 1, 1);
        refused(-1, () -> k.strike(15));
        same(1, k.strike(3));
        same(1, k.strike(12));
    }

    @Says("SIZES are less by the least of them")
    void theLeastSizeIsTakenOff() {
        threeInARing();
        same(3, k.strike(7));
        row("sizes", oaths(3), 2, 1, 0, 9);
    }

    @Says("those that are 0 then are released (SIZE 0)")
    void thoseOfTheLeastSizeAreReleased() {
        people(3);
        k.swear(0, 1, 1, 2);
        k.swear(1, 2, 1, 2);
        k.swear(2, 0, 1, 3);
        k.strike(7);
        row("sizes", oaths(3), 0, 0, 1);
        row("how they are", oaths(4), 2, 2, 0);
    }

    // ---- a day ----

    @Says("ACHE of one: of all broken LEGIBLE OATHS ON it")
    void keptReleasedAndIllegibleOnesDontAche() {
        people(3);
        for (int i = 0; i < 4; i++) k.swear(0, 1, i % 2, 1 + i);
        k.swear(1, 2, 0, 8);
        rule("aches size;wears if size=4 then 99 else 0 end;");
        k.breaks(0);
        k.breaks(1);
        k.breaks(3);
        k.breaks(4);
        same(1 + 2 + 4, k.of(1, 3));
        k.kneel(1);
        same(1 + 2, k.of(1, 3));
        k.release(0);
        same(2, k.of(1, 3));
    }

    @Says("if it is above 0, it is written down")
    void anAcheOfNothingIsNotWritten() {
        people(2);
        k.swear(0, 1, 0, 1);
        k.breaks(0);
        rule("aches day/2;");
        k.day(2);
        same(0, k.book(-1, 0));
        k.day(1);
        same(1, k.book(-1, 0));
        row("of 1", entry(0), 2, 1, 1);
    }

    @Says("Then DAY is one more")
    void theAcheIsWrittenOfTheDayThatEnds() {
        people(2);
        k.swear(0, 1, 0, 1);
        k.breaks(0);
        rule("aches 7+rain;");
        k.day(1);
        row("of DAY 0 and its RAIN", entry(0), 0, 1, 7);
        row("then", all(k.is(0), k.is(1)), 1, 7);
    }

    @Says("RAIN is a draw by 10 (X mod 10, X being (X * 367 + 241) mod 30449 then)")
    void aDrawGoesRound() {
        int x = 137;
        for (int i = 0; i < 120; i++) {
            same(x % 10, k.day(1));
            x = (x * 367 + 241) % 30449;
            same(x, k.is(2));
        }
    }

    @Says("(At DAY 9999 none can pass.)")
    void noDayPassesAt9999() {
        people(2);
        k.swear(0, 1, 0, 9);
        k.breaks(0);
        rule("aches day/9999;");
        days(9999);
        refused(-1, () -> k.day(1), () -> k.day(60));
        same(0, k.played(tell("day 1;")));
        row("nothing is written", all(k.book(-1, 0), k.of(1, 3)), 0, 1);
    }

    // ---- steps ----

    @Says("the latest 30 can be taken back, the latest first")
    void thirtyStepsCanBeTakenBack() {
        k.day(30);
        same(30, k.about(3));
        k.day(1);
        same(30, k.about(3));
        for (int i = 29; i >= 0; i--) {
            same(i, k.undo());
            same(1 + i, k.is(0));
        }
        refused(-1, k::undo);
        same(1, k.is(0));
    }

    @Says("(each), YEARS (see V): the latest 30 can be taken back")
    void theLatestThirtyOfManySteps() {
        days(95);
        for (int i = 29; i >= 15; i--) {
            same(i, k.undo());
            same(65 + i, k.is(0));
        }
        days(95);
        for (int i = 29; i >= 0; i--) {
            same(i, k.undo());
            same(145 + i, k.is(0));
        }
        refused(-1, k::undo);
    }

    @Says("STEPS: SWORN, BROKEN, RELEASED, KNEELS, SKATES, STRUCK OUT, a DAY")
    void eachOfTheseIsOneStep() {
        people(2);
        k.swear(0, 1, 1, 1);
        k.swear(1, 0, 1, 2);
        same(2, k.about(3));
        k.strike(3);
        same(3, k.about(3));
        k.breaks(1);
        same(4, k.about(3));
        k.release(1);
        same(5, k.about(3));
        k.kneel(0);
        same(6, k.about(3));
        k.skate(0, 1);
        same(7, k.about(3));
        k.day(3);
        same(10, k.about(3));
        k.years(0, 40);
        same(11, k.about(3));
    }

    @Says("(OATHS, DAY, RAIN, X, BOOK are as ahead of it;")
    void allIsAsAheadOfAStep() {
        people(2);
        k.swear(0, 1, 0, 9);
        k.breaks(0);
        k.day(1);
        int[] before = all(k.is(0), k.is(1), k.is(2), k.is(3), k.book(-1, 0));
        k.day(1);
        row("a day later", all(k.is(0), k.is(1), k.is(2), k.is(3), k.book(-1, 0)), 2, 1, 28089, 1, 1);
        k.undo();
        row("taken back", all(k.is(0), k.is(1), k.is(2), k.is(3), k.book(-1, 0)), before);
        k.undo();
        k.undo();
        same(0, k.ofOath(0, 4));
        k.undo();
        same(0, k.is(3));
    }

    @Says("PEOPLE told since are as told")
    void peopleToldSinceStay() {
        people(2);
        k.swear(0, 1, 0, 1);
        k.one(9, 99);
        same(0, k.undo());
        row("the third", all(k.about(0), k.of(2, 0), k.of(2, 1)), 3, 9, 99);
    }
}
