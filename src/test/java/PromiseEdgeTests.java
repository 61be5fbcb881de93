/** Promises 1 to 49: a test for each edge that a sentence there names, calls that are refused above all. */
final class PromiseEdgeTests extends KneeTest {
    public static void main(String[] args) throws Exception {
        Edges.run(PromiseEdgeTests.class);
    }

    /** Of 0 on 1's left KNEE, of these SIZES. */
    private void sworn(int... sizes) {
        people(2);
        for (int size : sizes) k.swear(0, 1, 0, size);
    }

    private void fillTheTape() {
        for (int i = 0; i < 15; i++) k.feed(0, 0, 0, 0, 0);
        same(300, k.about(9));
    }

    // ---- people and texts ----

    @Says("The constants: `NONE = -1`: None.")
    void noneIsBelow0() {
        same(-1, KneeOaths.NONE);
    }

    @Says(promise = 1, value = "Nobody; THE IMAGE is this.")
    void nobodyIsThereAndTheImageIsThis() {
        row("about", aboutAll(), 0, 0, -1, 0, 0, 0, 0, 0, 0, 0);
        row("is", all(k.is(0), k.is(1), k.is(2), k.is(3), k.book(-1, 0)), 0, 0, 137, 0, 0);
        sworn(3);
        tell("day 1;");
        k.day(1);
        same(0, k.back());
        row("about", aboutAll(), 0, 0, -1, 0, 0, 0, 0, 0, 0, 0);
        row("is", all(k.is(0), k.is(1), k.is(2), k.is(3), k.book(-1, 0)), 0, 0, 137, 0, 0);
    }

    @Says(promise = 2, value = "NONE for others, or")
    void othersAreNotTold() {
        refused(-1, () -> k.one(-1, 0), () -> k.one(10, 0), () -> k.one(0, -1), () -> k.one(0, 100), () -> k.one(LOWEST, 0),
            () -> k.one(HIGHEST, 0), () -> k.one(0, LOWEST), () -> k.one(0, HIGHEST));
        same(0, k.one(0, 0));
    }

    @Says(promise = 2, value = "or if there are 6.")
    void theSeventhIsNotTold() {
        people(5);
        same(5, k.one(1, 1));
        refused(-1, () -> k.one(1, 1));
        same(5, k.played(tell("day 1;".repeat(5) + "one 1 age 1;")));
    }

    @Says(promise = 3, value = "how many it has. NONE, and none come, if there would be more than 300.")
    void theTapeIsFullAt300() {
        fillTheTape();
        refused(-1, () -> k.feed(1, 2, 3, 4, 5));
        k.end(281);
        refused(-1, () -> k.feed(1, 2, 3, 4, 5));
        k.end(280);
        same(300, k.feed(1, 2, 3, 4, 5));
    }

    @Says(promise = 3, value = "Twenty bytes come behind the tape, the highest of a first")
    void theHighestByteIsFirst() {
        for (int i = 0; i < 20; i++) {
            int[] v = {0x20202020, 0x20202020, 0x20202020, 0x20202020, 0x20202020};
            v[i / 4] |= 0xff << 24 - i % 4 * 8;
            same(20, k.feed(v[0], v[1], v[2], v[3], v[4]));
            same(-1, k.text());
            row("byte " + i, all(k.fault(0), k.fault(1)), 1, i);
        }
        k.feed(0x64617931, 0x3b202020, 0x20202020, 0x20202020, 0x20202020);
        same(40, k.feed(0x20202020, 0x20202020, 0x20202020, 0x20202020, -1));
        same(-1, k.text());
        row("behind the tape", all(k.fault(0), k.fault(1)), 1, 36);
    }

    @Says(promise = 4, value = "The tape has its first n bytes alone: n.")
    void theTapeIsCutToNone() {
        k.feed(1, 2, 3, 4, 5);
        row("cut", all(k.end(20), k.end(19), k.end(1), k.end(0), k.end(0), k.about(9)), 20, 19, 1, 0, 0, 0);
    }

    @Says(promise = 4, value = "NONE, and nothing is done, if it has not so many, or n is below 0.")
    void theTapeIsNotMadeLonger() {
        refused(-1, () -> k.end(1), () -> k.end(-1));
        k.feed(1, 2, 3, 4, 5);
        refused(-1, () -> k.end(21), () -> k.end(300), () -> k.end(-1), () -> k.end(LOWEST), () -> k.end(HIGHEST));
        same(20, k.about(9));
    }

    @Says(promise = 5, value = "The tape (empty then) is a TEXT: its number.")
    void theTapeIsEmptyBehindAText() {
        same(0, tell("day 1;"));
        row("empty", all(k.about(9), k.end(1)), 0, -1);
        same(1, k.text());
        same(-1, tell("day 61;"));
        row("behind a FAULT too", all(k.about(9), k.end(1)), 0, -1);
        same(20, k.feed(0, 0, 0, 0, 0));
    }

    @Says(promise = 5, value = "NONE: it has a FAULT;")
    void aTextWithAFaultIsNone() {
        same(-1, tell("day 0;"));
        same(0, k.about(1));
        same(0, tell("day 1;"));
        same(-1, tell("?"));
        same(1, k.about(1));
        no(k.by(1));
    }

    @Says(promise = 5, value = "or (the tape stays) there are 4.")
    void theTapeStaysWhenThereAreFourTexts() {
        for (int i = 0; i < 4; i++) same(i, tell("day 1;"));
        Words.feed(k, "?");
        refused(-1, k::text);
        row("not read", all(k.about(9), k.fault(0), k.fault(1)), 1, 0, -1);
        k.back();
        same(1, k.about(9));
        same(-1, k.text());
        row("read", all(k.about(9), k.fault(0), k.fault(1)), 0, 1, 0);
    }

    @Says(promise = 6, value = "Of the latest text that was read: 0 its FAULT (0 without), 1 its place (NONE without).")
    void aTextWithoutAFault() {
        tell("day 61;");
        row("with", all(k.fault(0), k.fault(1)), 2, 4);
        tell("day 60;");
        row("without", all(k.fault(0), k.fault(1)), 0, -1);
        tell("x");
        row("with", all(k.fault(0), k.fault(1)), 1, 0);
    }

    @Says(promise = 6, value = "NONE for others, and ahead of any.")
    void noFaultAheadOfAny() {
        row("ahead of any", all(k.fault(0), k.fault(1), k.fault(2)), -1, -1, -1);
        tell("day 61;");
        refused(-1, () -> k.fault(-1), () -> k.fault(2), () -> k.fault(LOWEST), () -> k.fault(HIGHEST));
    }

    @Says(promise = 7, value = "THE TEXT (NONE: none): true.")
    void noTextRulesAgain() {
        yes(k.by(-1));
        rule("wears 1;");
        same(0, k.about(2));
        yes(k.by(-1));
        same(-1, k.about(2));
    }

    @Says(promise = 7, value = "False for others.")
    void textsNotToldDontRule() {
        denied(() -> k.by(0), () -> k.by(3));
        rule("wears 1;");
        denied(() -> k.by(1), () -> k.by(-2), () -> k.by(4), () -> k.by(LOWEST), () -> k.by(HIGHEST));
        same(0, k.about(2));
    }

    // ---- deeds ----

    @Says(promise = 8, value = "NONE for others, or")
    void othersAreNotSworn() {
        refused(-1, () -> k.swear(0, 1, 0, 1));
        people(2);
        refused(-1, () -> k.swear(0, 0, 0, 1), () -> k.swear(-1, 1, 0, 1), () -> k.swear(0, -1, 0, 1), () -> k.swear(2, 1, 0, 1),
            () -> k.swear(0, 2, 0, 1), () -> k.swear(0, 1, -1, 1), () -> k.swear(0, 1, 2, 1), () -> k.swear(0, 1, 0, 0),
            () -> k.swear(0, 1, 0, 10), () -> k.swear(LOWEST, 1, 0, 1), () -> k.swear(0, HIGHEST, 0, 1),
            () -> k.swear(0, 1, LOWEST, 1), () -> k.swear(0, 1, 0, HIGHEST));
        same(0, k.swear(1, 0, 1, 9));
    }

    @Says(promise = 8, value = "or if there are 14.")
    void theFifteenthIsNotSworn() {
        sworn(1, 1, 1, 1, 1, 1, 1, 1, 1, 1, 1, 1, 1);
        same(13, k.swear(0, 1, 0, 1));
        refused(-1, () -> k.swear(0, 1, 0, 1));
    }

    @Says(promise = 9, value = "False, if it isn't kept, and for others.")
    void othersAreNotBroken() {
        denied(() -> k.breaks(0));
        sworn(1, 1, 1);
        k.breaks(0);
        k.release(1);
        denied(() -> k.breaks(0), () -> k.breaks(1), () -> k.breaks(3), () -> k.breaks(-1), () -> k.breaks(LOWEST), () -> k.breaks(HIGHEST));
        yes(k.breaks(2));
    }

    @Says(promise = 10, value = "False, if it is, and for others.")
    void othersAreNotReleased() {
        denied(() -> k.release(0));
        sworn(1, 1, 1);
        k.release(0);
        k.breaks(1);
        denied(() -> k.release(0), () -> k.release(3), () -> k.release(-1), () -> k.release(LOWEST), () -> k.release(HIGHEST));
        yes(k.release(1));
        yes(k.release(2));
    }

    @Says(promise = 11, value = "NONE for others.")
    void othersDontKneel() {
        refused(-1, () -> k.kneel(0));
        sworn(1);
        refused(-1, () -> k.kneel(-1), () -> k.kneel(2), () -> k.kneel(LOWEST), () -> k.kneel(HIGHEST));
        row("one without OATHS", all(k.kneel(0), k.about(3)), 0, 2);
    }

    @Says(promise = 11, value = "how many LEGIBLE OATHS are ON it then")
    void marksBehindTheKneeling() {
        sworn(1, 1, 1);
        rule("wears 33*size;");
        k.release(2);
        row("three times", all(k.kneel(1), k.kneel(1), k.kneel(1)), 2, 2, 0);
    }

    @Says(promise = 12, value = "NONE for others.")
    void othersDontSkate() {
        refused(-1, () -> k.skate(0, 0));
        sworn(1);
        refused(-1, () -> k.skate(-1, 0), () -> k.skate(2, 0), () -> k.skate(1, -1), () -> k.skate(1, 2), () -> k.skate(LOWEST, 0),
            () -> k.skate(HIGHEST, 0), () -> k.skate(1, LOWEST), () -> k.skate(1, HIGHEST));
        row("a bare KNEE", all(k.skate(1, 1), k.about(3)), 1, 2);
    }

    @Says(promise = 12, value = "how many LEGIBLE OATHS are ON it then")
    void marksBehindTheSkating() {
        sworn(1);
        k.swear(0, 1, 1, 1);
        row("four times", all(k.skate(1, 0), k.skate(1, 0), k.skate(1, 0), k.skate(1, 0)), 2, 2, 2, 1);
    }

    @Says(promise = 13, value = "NONE, if these are no RING, and for others.")
    void whatIsNoRingIsNotStruckOut() {
        refused(-1, () -> k.strike(0), () -> k.strike(1));
        threeInARing();
        refused(-1, () -> k.strike(0), () -> k.strike(1), () -> k.strike(3), () -> k.strike(15), () -> k.strike(16), () -> k.strike(7 + 16),
            () -> k.strike(7 + (1 << 14)), () -> k.strike(-1), () -> k.strike(LOWEST), () -> k.strike(HIGHEST), () -> k.strike(LOWEST + 7));
        same(3, k.strike(7));
    }

    @Says(promise = 14, value = "DAYS pass (1 .. 60): RAIN.")
    void oneTo60DaysPass() {
        row("one", all(k.day(1), k.is(0)), 7, 1);
        k.day(60);
        same(61, k.is(0));
        same(30, k.about(3));
    }

    @Says(promise = 14, value = "NONE for others, or")
    void otherDaysDontPass() {
        refused(-1, () -> k.day(0), () -> k.day(61), () -> k.day(-1), () -> k.day(LOWEST), () -> k.day(HIGHEST));
    }

    @Says(promise = 14, value = "or beyond 9999 (nothing is done then).")
    void noDaysBeyond9999() {
        days(9940);
        refused(-1, () -> k.day(60));
        k.day(19);
        same(9959, k.is(0));
        refused(-1, () -> k.day(41));
        k.day(40);
        same(9999, k.is(0));
    }

    @Says(promise = 15, value = "NONE: all is done; else the number of the CLAUSE that can't be.")
    void whichClauseCantBe() {
        same(-1, k.played(tell("")));
        same(-1, k.played(tell("wears 1;aches 1;risk 1;")));
        same(0, k.played(tell("kneel 0;day 1;")));
        same(23, k.played(tell("day 1;".repeat(23) + "break 0;")));
        same(23, k.is(0));
    }

    @Says(promise = 15, value = "-2 for others.")
    void otherTextsAreNotPlayed() {
        refused(-2, () -> k.played(0), () -> k.played(-1));
        tell("day 1;");
        refused(-2, () -> k.played(1), () -> k.played(-1), () -> k.played(4), () -> k.played(LOWEST), () -> k.played(HIGHEST));
    }

    @Says(promise = 16, value = "NONE for others, and without PEOPLE.")
    void noYearsWithoutPeople() {
        refused(-1, () -> k.years(0, 1), () -> k.years(9999, 40));
        people(1);
        refused(-1, () -> k.years(-1, 1), () -> k.years(10000, 1), () -> k.years(0, 0), () -> k.years(0, 41), () -> k.years(LOWEST, 1),
            () -> k.years(HIGHEST, 1), () -> k.years(0, LOWEST), () -> k.years(0, HIGHEST));
        same(0, k.years(0, 1));
    }

    @Says(promise = 17, value = "how many can be yet. NONE: there is none.")
    void nothingIsTakenBackWithoutSteps() {
        refused(-1, k::undo);
        sworn(1);
        same(0, k.undo());
        refused(-1, k::undo);
        k.day(40);
        for (int i = 29; i >= 0; i--) same(i, k.undo());
        refused(-1, k::undo);
        same(10, k.is(0));
    }

    // ---- what is told ----

    @Says(promise = 18, value = "-1000 for others.")
    void nothingIsToldOfOtherPeople() {
        refused(-1000, () -> k.of(0, 0), () -> k.of(0, 5));
        people(2);
        refused(-1000, () -> k.of(2, 0), () -> k.of(-1, 0), () -> k.of(0, -1), () -> k.of(0, 6), () -> k.of(LOWEST, 0),
            () -> k.of(HIGHEST, 0), () -> k.of(0, LOWEST), () -> k.of(0, HIGHEST));
    }

    @Says(promise = 19, value = "8 aches now (as if it were broken)")
    void achesAsIfItWereBroken() {
        sworn(9, 9, 9);
        k.day(1);
        k.breaks(1);
        k.release(2);
        row("alike", all(k.ofOath(0, 8), k.ofOath(1, 8), k.ofOath(2, 8)), 6, 6, 6);
        row("and wears", all(k.ofOath(0, 7), k.ofOath(1, 7), k.ofOath(2, 7)), 5, 5, 5);
    }

    @Says(promise = 19, value = "NONE for others.")
    void nothingIsToldOfOtherOaths() {
        refused(-1, () -> k.ofOath(0, 0), () -> k.ofOath(0, 8));
        sworn(1);
        refused(-1, () -> k.ofOath(1, 0), () -> k.ofOath(1, 7), () -> k.ofOath(1, 8), () -> k.ofOath(-1, 8), () -> k.ofOath(0, -1),
            () -> k.ofOath(0, 9), () -> k.ofOath(LOWEST, 0), () -> k.ofOath(HIGHEST, 7), () -> k.ofOath(0, LOWEST), () -> k.ofOath(0, HIGHEST));
        k.undo();
        refused(-1, () -> k.ofOath(0, 0));
    }

    @Says(promise = 20, value = "-2 for others.")
    void isNothingElse() {
        refused(-2, () -> k.is(-1), () -> k.is(4), () -> k.is(LOWEST), () -> k.is(HIGHEST));
    }

    @Says(promise = 21, value = "how many (i NONE); the i-th, from the eldest on")
    void theBookFromTheEldestOn() {
        same(0, k.book(-1, 0));
        sworn(1);
        k.breaks(0);
        rule("aches 1+day;");
        k.day(32);
        row("thirty", all(k.book(-1, 0), k.book(0, 0), k.book(1, 0), k.book(29, 0), k.book(29, 2)), 30, 2, 3, 31, 32);
    }

    @Says(promise = 21, value = "-2 if there is none such, and for others.")
    void noOtherAches() {
        refused(-2, () -> k.book(0, 0), () -> k.book(29, 0));
        sworn(1);
        k.breaks(0);
        rule("aches 1;");
        k.day(3);
        refused(-2, () -> k.book(3, 0), () -> k.book(30, 0), () -> k.book(-2, 0), () -> k.book(0, -1), () -> k.book(0, 3),
            () -> k.book(LOWEST, 0), () -> k.book(HIGHEST, 0), () -> k.book(0, LOWEST), () -> k.book(0, HIGHEST));
        k.day(40);
        refused(-2, () -> k.book(30, 0));
    }

    // ---- what comes ----

    @Says(promise = 22, value = "RAIN (one NONE), how much one ached. NONE for others.")
    void nothingElseIsForetold() {
        same(7, k.foretold(1, -1));
        refused(-1, () -> k.foretold(1, 0));
        people(2);
        refused(-1, () -> k.foretold(0, 0), () -> k.foretold(61, 0), () -> k.foretold(-1, -1), () -> k.foretold(1, 2), () -> k.foretold(1, -2),
            () -> k.foretold(LOWEST, 0), () -> k.foretold(HIGHEST, -1), () -> k.foretold(1, LOWEST), () -> k.foretold(1, HIGHEST));
        same(0, k.foretold(60, 1));
    }

    @Says(promise = 23, value = "NONE: none, and for others.")
    void noFirstAche() {
        refused(-1, () -> k.firstAche(0));
        sworn(9);
        refused(-1, () -> k.firstAche(1), () -> k.firstAche(2), () -> k.firstAche(-1), () -> k.firstAche(LOWEST), () -> k.firstAche(HIGHEST));
        k.breaks(0);
        same(2, k.firstAche(1));
    }

    @Says(promise = 24, value = "NONE: none, and for others (released).")
    void othersDontFade() {
        refused(-1, () -> k.fades(0));
        sworn(9, 9);
        k.release(0);
        refused(-1, () -> k.fades(0), () -> k.fades(2), () -> k.fades(-1), () -> k.fades(LOWEST), () -> k.fades(HIGHEST));
        same(20, k.fades(1));
        rule("wears 1;");
        same(-1, k.fades(1));
    }

    @Says(promise = 25, value = "how many there are (one NONE: none any more). -2 for others, or if there are 6.")
    void feltByOthersOrTheSeventh() {
        refused(-2, () -> k.felt(0, 0, 0));
        people(1);
        refused(-2, () -> k.felt(1, 0, 0), () -> k.felt(-2, 0, 0), () -> k.felt(0, -1, 0), () -> k.felt(0, 10, 0), () -> k.felt(0, 0, -1),
            () -> k.felt(0, 0, 1000), () -> k.felt(LOWEST, 0, 0), () -> k.felt(HIGHEST, 0, 0), () -> k.felt(0, LOWEST, 0),
            () -> k.felt(0, 0, HIGHEST));
        for (int i = 1; i <= 6; i++) same(i, k.felt(0, 0, 0));
        refused(-2, () -> k.felt(0, 0, 0), () -> k.felt(1, 0, 0));
        row("none any more", all(k.felt(-1, 0, 0), k.about(4), k.felt(0, 0, 0)), 0, 0, 1);
    }

    @Says(promise = 26, value = "of its LEGIBLE ones). NONE for others.")
    void noBreachesOfOthers() {
        refused(-1, () -> k.breaches(0, 0));
        people(1);
        row("one without OATHS", all(k.breaches(0, 0), k.breaches(0, 1), k.breaches(0, 2)), 1, 0, 0);
        refused(-1, () -> k.breaches(1, 0), () -> k.breaches(-1, 0), () -> k.breaches(0, -1), () -> k.breaches(0, 3),
            () -> k.breaches(LOWEST, 0), () -> k.breaches(HIGHEST, 0), () -> k.breaches(0, LOWEST), () -> k.breaches(0, HIGHEST));
    }

    @Says(promise = 27, value = "NONE for others (not LEGIBLE).")
    void noOddsOfIllegibleOnes() {
        refused(-1, () -> k.odds(0, false));
        sworn(9, 9);
        k.release(0);
        refused(-1, () -> k.odds(0, false), () -> k.odds(0, true), () -> k.odds(2, false), () -> k.odds(-1, true), () -> k.odds(LOWEST, true),
            () -> k.odds(HIGHEST, false));
        row("the other", all(k.odds(1, false), k.odds(1, true)), 1, 2);
        skates(4, 1, 0);
        refused(-1, () -> k.odds(1, false), () -> k.odds(1, true));
    }

    @Says(promise = 28, value = "NONE: none, and for others.")
    void noneIsAskedNext() {
        refused(-1, () -> k.nextAsked(0));
        sworn(9);
        refused(-1, () -> k.nextAsked(0), () -> k.nextAsked(2), () -> k.nextAsked(-1), () -> k.nextAsked(LOWEST), () -> k.nextAsked(HIGHEST));
        same(0, k.nextAsked(1));
        k.felt(1, 0, 5);
        same(-1, k.nextAsked(1));
    }

    // ---- clashes, marks, words ----

    @Says(promise = 29, value = "how many there are (one NONE: none any more). -2 for others, or if there are 8.")
    void otherClashesOrTheNinth() {
        refused(-2, () -> k.clash(0, 1));
        sworn(1, 1);
        k.release(1);
        refused(-2, () -> k.clash(0, 0), () -> k.clash(0, 2), () -> k.clash(2, 0), () -> k.clash(0, -1), () -> k.clash(-2, 0),
            () -> k.clash(LOWEST, 0), () -> k.clash(HIGHEST, 0), () -> k.clash(0, LOWEST), () -> k.clash(0, HIGHEST));
        for (int i = 1; i <= 8; i++) same(i, k.clash(i % 2, 1 - i % 2));
        refused(-2, () -> k.clash(0, 1));
        row("none any more", all(k.clash(-1, 0), k.about(5), k.clash(0, 1)), 0, 0, 1);
    }

    @Says(promise = 30, value = "LEAST RELEASED (bits).")
    void noneIsReleasedWithoutClashes() {
        same(0, k.leastReleased());
        sworn(1, 1);
        same(0, k.leastReleased());
        k.clash(1, 0);
        same(1, k.leastReleased());
        k.clash(-1, 0);
        same(0, k.leastReleased());
    }

    @Says(promise = 31, value = "-1000 for others (shown 0 .. 99).")
    void nothingElseIsForged() {
        refused(-1000, () -> k.forged(0, 0, 0));
        sworn(1);
        refused(-1000, () -> k.forged(2, 0, 0), () -> k.forged(-1, 0, 0), () -> k.forged(1, -1, 0), () -> k.forged(1, 2, 0),
            () -> k.forged(1, 0, -1), () -> k.forged(1, 0, 100), () -> k.forged(LOWEST, 0, 0), () -> k.forged(HIGHEST, 0, 0),
            () -> k.forged(1, HIGHEST, 0), () -> k.forged(1, 0, LOWEST), () -> k.forged(1, 0, HIGHEST));
        row("0 and 99", all(k.forged(1, 0, 0), k.forged(1, 0, 99), k.forged(1, 1, 0)), -1, 98, 0);
    }

    @Says(promise = 32, value = "how many there are (work NONE: none any more). -2 for others, or if there are 8.")
    void otherWordsOrTheNinth() {
        refused(-2, () -> k.word(0, 0), () -> k.word(100, 0), () -> k.word(-2, 0), () -> k.word(1, -1), () -> k.word(1, 1000),
            () -> k.word(LOWEST, 0), () -> k.word(HIGHEST, 0), () -> k.word(1, LOWEST), () -> k.word(1, HIGHEST));
        for (int i = 1; i <= 8; i++) same(i, k.word(99, 999));
        refused(-2, () -> k.word(1, 1));
        row("none any more", all(k.word(-1, 0), k.about(6), k.word(1, 1)), 0, 0, 1);
    }

    @Says(promise = 33, value = "NONE for others.")
    void nothingElseIsInTime() {
        row("without words", all(k.inTime(0), k.inTime(1), k.inTime(2)), 0, 0, 0);
        refused(-1, () -> k.inTime(-1), () -> k.inTime(3), () -> k.inTime(LOWEST), () -> k.inTime(HIGHEST));
    }

    // ---- IV ----

    @Says(promise = 34, value = "NONE: none, and for others.")
    void whomIsNone() {
        refused(-1, () -> k.whom(0), () -> k.whom(-1));
        people(1);
        refused(-1, () -> k.whom(0), () -> k.whom(1), () -> k.whom(-1), () -> k.whom(LOWEST), () -> k.whom(HIGHEST));
        people(1);
        row("the other", all(k.whom(0), k.whom(1), k.whom(2)), 1, 0, -1);
    }

    @Says(promise = 35, value = "RINGS (bits; 0: none).")
    void noRing() {
        same(0, k.ring());
        people(2);
        same(0, k.ring());
        k.swear(0, 1, 1, 1);
        same(0, k.ring());
        k.swear(1, 0, 1, 1);
        same(3, k.ring());
        k.strike(3);
        same(0, k.ring());
    }

    @Says(promise = 36, value = "ALL SEEN (bits).")
    void nobodyNeedBeAskedOfNothing() {
        same(0, k.allSeen());
        sworn(1);
        same(1, k.allSeen());
        k.release(0);
        same(0, k.allSeen());
    }

    @Says(promise = 37, value = "(tailor NONE: none any more). -2 for others (unlike ones), or if there are 8.")
    void otherTailorsOrTheNinth() {
        refused(-2, () -> k.saw(0, 1));
        people(2);
        refused(-2, () -> k.saw(0, 0), () -> k.saw(0, 2), () -> k.saw(2, 0), () -> k.saw(0, -1), () -> k.saw(-2, 0), () -> k.saw(LOWEST, 0),
            () -> k.saw(HIGHEST, 0), () -> k.saw(0, LOWEST), () -> k.saw(0, HIGHEST));
        for (int i = 1; i <= 8; i++) same(i, k.saw(i % 2, 1 - i % 2));
        refused(-2, () -> k.saw(0, 1));
        row("none any more", all(k.saw(-1, 0), k.about(7), k.saw(0, 1)), 0, 0, 1);
    }

    @Says(promise = 38, value = "NONE for others.")
    void othersKnowNothing() {
        refused(-1, () -> k.known(0));
        people(1);
        same(0, k.known(0));
        refused(-1, () -> k.known(1), () -> k.known(-1), () -> k.known(LOWEST), () -> k.known(HIGHEST));
    }

    @Says(promise = 39, value = "TOGETHER (bits; 0 without LEGIBLE OATHS).")
    void nobodyNeedKnowOfNothing() {
        same(0, k.together());
        sworn(1);
        same(1, k.together());
        skates(4, 1, 0);
        same(0, k.together());
    }

    @Says(promise = 40, value = "-100000 for others (released).")
    void othersAreNotCopied() {
        refused(-100000, () -> k.copy(0, 0, 0, false));
        sworn(1, 1);
        k.release(0);
        refused(-100000, () -> k.copy(0, 0, 0, false), () -> k.copy(0, 0, 0, true), () -> k.copy(2, 0, 0, true), () -> k.copy(-1, 0, 0, true),
            () -> k.copy(1, -1, 0, true), () -> k.copy(1, 100, 0, true), () -> k.copy(1, 0, -1, false), () -> k.copy(1, 0, 10000, false),
            () -> k.copy(LOWEST, 0, 0, true), () -> k.copy(HIGHEST, 0, 0, true), () -> k.copy(1, LOWEST, 0, true), () -> k.copy(1, 0, HIGHEST, true));
        k.breaks(1);
        same(0, k.copy(1, 0, 0, true));
    }

    @Says(promise = 41, value = "how many there are (oath NONE: none any more). -2 for others, or if there are 8.")
    void otherWornOrTheNinth() {
        refused(-2, () -> k.worn(0, 0));
        sworn(1);
        refused(-2, () -> k.worn(1, 0), () -> k.worn(-2, 0), () -> k.worn(0, -1), () -> k.worn(0, 100), () -> k.worn(LOWEST, 0),
            () -> k.worn(HIGHEST, 0), () -> k.worn(0, LOWEST), () -> k.worn(0, HIGHEST));
        for (int i = 1; i <= 8; i++) same(i, k.worn(0, 99));
        refused(-2, () -> k.worn(0, 0));
        row("none any more", all(k.worn(-1, 0), k.about(8), k.worn(0, 0)), 0, 0, 1);
    }

    @Says(promise = 42, value = "WHOSE LAW (bits).")
    void whoseLawWithoutTextsOrWords() {
        same(0, k.whose());
        for (int i = 0; i < 4; i++) tell("wears " + i + ";");
        same(15, k.whose());
        sworn(1);
        k.worn(0, 3);
        same(8, k.whose());
        k.worn(0, 2);
        same(0, k.whose());
    }

    @Says(promise = 43, value = "NONE: none.")
    void mostSwornByNone() {
        same(-1, k.mostSworn());
        sworn(1);
        same(0, k.mostSworn());
        k.release(0);
        same(-1, k.mostSworn());
    }

    @Says(promise = 44, value = "FAITHFUL (bits).")
    void faithfulWithoutOaths() {
        same(0, k.faithful());
        people(6);
        same(63, k.faithful());
    }

    @Says(promise = 45, value = "-2 for others.")
    void othersDidNotAche() {
        same(0, k.ached(-1));
        refused(-2, () -> k.ached(0));
        people(1);
        same(0, k.ached(0));
        refused(-2, () -> k.ached(1), () -> k.ached(-2), () -> k.ached(LOWEST), () -> k.ached(HIGHEST));
    }

    @Says(promise = 46, value = "NONE: none.")
    void noWorstDay() {
        same(-1, k.worstDay());
        sworn(1);
        k.day(9);
        same(-1, k.worstDay());
        k.breaks(0);
        rule("aches 1;");
        k.day(2);
        same(9, k.worstDay());
        k.undo();
        k.undo();
        same(-1, k.worstDay());
    }

    // ---- the image ----

    @Says(promise = 47, value = "THE IMAGE is as all is now: DAY.")
    void theLatestImageIsKept() {
        same(0, k.image());
        k.day(5);
        same(5, k.image());
        k.day(5);
        same(5, k.back());
        k.undo();
        same(4, k.image());
        k.day(1);
        row("with its steps", all(k.back(), k.about(3)), 4, 4);
    }

    @Says(promise = 48, value = "BACK to THE IMAGE (it stays): DAY.")
    void theImageStays() {
        people(1);
        k.day(2);
        k.image();
        for (int i = 0; i < 3; i++) {
            k.day(7);
            k.one(1, 1);
            same(2, k.back());
            row("again", all(k.is(0), k.about(0), k.about(3)), 2, 1, 2);
        }
    }

    @Says(promise = 49, value = "2 THE TEXT (NONE), 3 STEPS that can be taken back")
    void aboutTheTextAndSteps() {
        row("none", all(k.about(2), k.about(3)), -1, 0);
        rule("wears 1;");
        k.day(31);
        row("the first, and thirty", all(k.about(2), k.about(3)), 0, 30);
    }

    @Says(promise = 49, value = "-2 for others.")
    void aboutNothingElse() {
        refused(-2, () -> k.about(-1), () -> k.about(10), () -> k.about(LOWEST), () -> k.about(HIGHEST));
    }
}
