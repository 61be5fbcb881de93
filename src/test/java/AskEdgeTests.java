/** Parts III to V of the document: a test for each edge that a sentence there names. */
final class AskEdgeTests extends KneeTest {
    public static void main(String[] args) throws Exception {
        Edges.run(AskEdgeTests.class);
    }

    /** One broken OATH of SIZE 9 of 0 on 1's left KNEE. */
    private void oneBroken() {
        people(2);
        k.swear(0, 1, 0, 9);
        k.breaks(0);
    }

    /** OATHS on 1 of these SIZES, which they ache by. */
    private void sizesOnOne(int... sizes) {
        people(2);
        for (int size : sizes) k.swear(0, 1, 0, size);
        rule("aches size;");
    }

    private void words(int... worksAndDues) {
        for (int i = 0; i < worksAndDues.length; i += 2) k.word(worksAndDues[i], worksAndDues[i + 1]);
    }

    private int[] inTime() {
        return all(k.inTime(0), k.inTime(1), k.inTime(2));
    }

    private int[] breaches(int one) {
        return all(k.breaches(one, 0), k.breaches(one, 1), k.breaches(one, 2));
    }

    private int[] copy(int oath, int c, int l) {
        return all(k.copy(oath, c, l, false), k.copy(oath, c, l, true));
    }

    private void illegible(int oath) {
        skates(4, k.ofOath(oath, 1), k.ofOath(oath, 2));
        same(99, k.ofOath(oath, 5));
    }

    // ---- III: what comes ----

    @Says("All that follows changes nothing.")
    void askingChangesNothing() {
        oneBroken();
        k.swear(1, 0, 1, 3);
        k.felt(1, 5, 4);
        k.clash(0, 1);
        k.word(3, 4);
        k.saw(0, 1);
        k.worn(1, 5);
        int[] before = all(k.is(0), k.is(1), k.is(2), k.is(3), k.book(-1, 0), k.about(3), k.ofOath(0, 5), k.ofOath(0, 4));
        k.foretold(60, 1);
        k.firstAche(1);
        k.fades(0);
        k.breaches(1, 0);
        k.odds(0, true);
        k.nextAsked(1);
        k.leastReleased();
        k.forged(1, 0, 5);
        k.inTime(0);
        k.whom(0);
        k.ring();
        k.allSeen();
        k.known(0);
        k.together();
        k.copy(0, 1, 1, true);
        k.whose();
        k.mostSworn();
        row("as before", all(k.is(0), k.is(1), k.is(2), k.is(3), k.book(-1, 0), k.about(3), k.ofOath(0, 5), k.ofOath(0, 4)), before);
        row("about", aboutAll(), 2, 0, -1, 3, 1, 1, 1, 1, 1, 0);
    }

    @Says("FORETOLD behind n DAYS (1 .. 60;")
    void foretoldBehindOneTo60Days() {
        oneBroken();
        rule("aches 1;");
        refused(-1, () -> k.foretold(0, 1), () -> k.foretold(61, 1), () -> k.foretold(0, -1), () -> k.foretold(61, -1));
        row("1 and 60", all(k.foretold(1, 1), k.foretold(60, 1), k.foretold(1, -1)), 1, 60, 7);
        int rain = k.foretold(60, -1);
        same(rain, k.day(60));
    }

    @Says("those that can pass), nothing else being done")
    void foretoldOfDaysThatCanPass() {
        oneBroken();
        rule("aches 1;");
        days(9996);
        row("three", all(k.foretold(2, 1), k.foretold(3, 1), k.foretold(4, 1), k.foretold(60, 1)), 2, 3, 3, 3);
        int rain = k.foretold(60, -1);
        same(rain, k.day(3));
        row("none", all(k.foretold(60, 1), k.foretold(60, -1)), 0, rain);
    }

    @Says("in how many DAYS (60 at most) one aches first; none")
    void firstAcheWithin60Days() {
        oneBroken();
        rule("aches day-58;");
        same(60, k.firstAche(1));
        rule("aches day-59;");
        same(-1, k.firstAche(1));
        rule("aches 1-day;");
        same(1, k.firstAche(1));
        same(-1, k.firstAche(0));
    }

    @Says("FADES: an OATH that isn't released")
    void aReleasedOneDoesntFade() {
        people(2);
        k.swear(0, 1, 0, 1);
        k.swear(0, 1, 0, 1);
        k.breaks(1);
        rule("wears 99;");
        row("kept and broken", all(k.fades(0), k.fades(1)), 1, 1);
        k.release(0);
        k.release(1);
        row("released", all(k.fades(0), k.fades(1)), -1, -1);
    }

    @Says("KNEELS once a DAY from now on (ahead of each DAY)")
    void itKneelsAheadOfEachDay() {
        people(2);
        k.swear(0, 1, 0, 1);
        rule("wears if day=2 then 99 else 0 end;");
        same(3, k.fades(0));
        rule("wears 11*rain;");
        // RAIN 0, 7, 1 wear by 0, 77, 11; then 9 by 99
        same(4, k.fades(0));
        k.day(1);
        same(3, k.fades(0));
    }

    @Says("behind how many DAYS (0 .. 60) it is not LEGIBLE; none")
    void fadesBehind0To60Days() {
        people(2);
        k.swear(0, 1, 0, 1);
        rule("wears if day=59 then 99 else 0 end;");
        same(60, k.fades(0));
        rule("wears if day=60 then 99 else 0 end;");
        same(-1, k.fades(0));
        illegible(0);
        same(0, k.fades(0));
    }

    // ---- III: breaches ----

    @Says("FELT (6 at most; told)")
    void feltIsSixAtMost() {
        people(2);
        for (int i = 1; i <= 6; i++) same(i, k.felt(0, 0, 0));
        refused(-2, () -> k.felt(0, 0, 0));
        same(6, k.about(4));
    }

    @Says("an ache (0 .. 999) that it would have, were RAIN r (0 .. 9), all else as now")
    void feltHasBounds() {
        people(2);
        refused(-2, () -> k.felt(0, 0, -1), () -> k.felt(0, 0, 1000), () -> k.felt(0, -1, 0), () -> k.felt(0, 10, 0));
        same(1, k.felt(0, 0, 999));
        same(2, k.felt(0, 9, 0));
    }

    @Says("BREACHES of one: sets of its OATHS")
    void fourteenMayBeBrokenBySixFeelings() {
        sizesOnOne(1, 1, 1, 1, 1, 1, 1, 1, 1, 1, 1, 1, 1, 9);
        row("all sets", breaches(1), 16384, 0, 0);
        row("asked", all(k.nextAsked(1), k.odds(13, false), k.odds(13, true)), 0, 1, 2);
        for (int i = 0; i < 5; i++) k.felt(1, i, 13);
        row("all of SIZE 1, or four of them and the last", breaches(1), 1 + 715, 0, 0);
        k.felt(1, 9, 22);
        row("the sixth", breaches(1), 0, 16383, 16383);
        k.felt(-1, 0, 0);
        k.felt(1, 9, 22);
        row("all", breaches(1), 1, 16383, 0);
    }

    @Says("nobody knows which are broken")
    void howAnOathIsSaysNothingOfBreaches() {
        sizesOnOne(1, 2);
        row("all sets", breaches(1), 4, 0, 0);
        k.breaks(0);
        row("all sets yet", breaches(1), 4, 0, 0);
        k.felt(1, 0, 2);
        row("by what it felt", breaches(1), 1, 2, 1);
    }

    @Says("sets of its OATHS (LEGIBLE ones ON it) that may be broken")
    void breachesAreOfLegibleOnes() {
        sizesOnOne(1, 2, 4);
        k.swear(1, 0, 0, 9);
        k.swear(0, 1, 1, 8);
        same(16, k.breaches(1, 0));
        k.release(0);
        same(8, k.breaches(1, 0));
        illegible(4);
        same(4, k.breaches(1, 0));
        k.felt(1, 0, 8);
        row("none of the illegible", breaches(1), 0, 2 + 4, 2 + 4);
    }

    @Says("by which all that it FELT is so")
    void allThatOneFeltIsSo() {
        people(3);
        k.swear(0, 1, 0, 5);
        k.swear(0, 1, 0, 9);
        k.felt(1, 2, 1);
        // at RAIN 2 both ache 1, at 9 they ache 4 and 8
        row("either", breaches(1), 2, 0, 0);
        k.felt(2, 9, 77);
        row("another felt that", breaches(1), 2, 0, 0);
        k.felt(1, 9, 8);
        row("the second", breaches(1), 1, 2, 1);
        k.felt(1, 9, 4);
        row("none", breaches(1), 0, 3, 3);
    }

    @Says("SURE kept (in none; without sets both are all LEGIBLE ones ON it)")
    void withoutSetsAllAreSure() {
        sizesOnOne(3, 3, 3);
        k.swear(1, 0, 0, 3);
        k.release(1);
        k.felt(1, 0, 1);
        row("without sets", breaches(1), 0, 5, 5);
        k.felt(-1, 0, 0);
        k.felt(1, 0, 6);
        row("both are broken", breaches(1), 1, 5, 0);
        k.felt(-1, 0, 0);
        k.felt(1, 0, 0);
        row("both are kept", breaches(1), 1, 0, 5);
    }

    @Says("all sets alike likely, in lowest terms (0 by 1, if there are none)")
    void oddsAreInLowestTerms() {
        sizesOnOne(3, 3, 3, 3, 1);
        k.felt(1, 0, 6);
        row("three of six", all(k.odds(0, false), k.odds(0, true)), 1, 2);
        row("none of six", all(k.odds(4, false), k.odds(4, true)), 0, 1);
        k.felt(-1, 0, 0);
        k.felt(1, 0, 12);
        row("one of one", all(k.odds(0, false), k.odds(0, true)), 1, 1);
        k.felt(1, 0, 11);
        row("no sets", all(k.odds(0, false), k.odds(0, true)), 0, 1);
    }

    @Says("NEXT ASKED: the OATH in as near to half of these as can be")
    void askedIsTheOneNearestToHalf() {
        sizesOnOne(1, 2, 3, 4, 5, 6);
        k.felt(1, 0, 6);
        // {6}, {1, 5}, {2, 4}, {1, 2, 3}: sizes 1 and 2 in two of four, all others in one
        same(0, k.nextAsked(1));
        k.release(0);
        // {6}, {2, 4}: sizes 2, 4, 6 in one of two
        same(1, k.nextAsked(1));
        k.undo();
        k.felt(-1, 0, 0);
        k.felt(1, 0, 18);
        // {3, 4, 5, 6}, {1, 2, 4, 5, 6}: 1, 2 and 3 in one of two
        same(0, k.nextAsked(1));
        k.release(0);
        same(-1, k.nextAsked(1));
    }

    @Says("not in all, not in none;")
    void askedIsNoneThatIsSure() {
        sizesOnOne(9, 8, 1, 1);
        k.felt(1, 0, 9);
        // {9}, {8, 1}, {8, 1'}
        same(0, k.nextAsked(1));
        k.felt(-1, 0, 0);
        k.felt(1, 0, 10);
        // {9, 1}, {9, 1'}, {8, 1, 1'}
        same(0, k.nextAsked(1));
        k.felt(-1, 0, 0);
        k.felt(1, 0, 18);
        // {9, 8, 1}, {9, 8, 1'}
        same(2, k.nextAsked(1));
        k.felt(-1, 0, 0);
        k.felt(1, 0, 2);
        // {1, 1'}
        same(-1, k.nextAsked(1));
    }

    @Says("of like ones the lowest; none. CLASHES")
    void askedIsTheLowestOfLikeOnesOrNone() {
        sizesOnOne(9, 1, 1, 1);
        k.felt(1, 0, 10);
        same(1, k.nextAsked(1));
        k.felt(1, 0, 9);
        same(-1, k.nextAsked(1));
        same(-1, k.nextAsked(0));
    }

    // ---- III: clashes, marks, words ----

    @Says("CLASHES (8 at most; told: two unlike OATHS;")
    void clashesAreEightOfUnlikeOaths() {
        people(2);
        for (int i = 0; i < 14; i++) k.swear(0, 1, 0, 1);
        refused(-2, () -> k.clash(3, 3), () -> k.clash(0, 14), () -> k.clash(14, 0), () -> k.clash(0, -1));
        for (int i = 1; i <= 8; i++) same(i, k.clash(0, 13));
        refused(-2, () -> k.clash(0, 13));
    }

    @Says("without which no two kept ones clash")
    void theEighthClashCountsToo() {
        people(2);
        for (int i = 0; i < 14; i++) k.swear(0, 1, 0, 1);
        for (int i = 0; i < 7; i++) k.clash(0, 1);
        same(1, k.leastReleased());
        k.clash(12, 13);
        same(1 + (1 << 12), k.leastReleased());
    }

    @Says("such as aren't sworn any more, by taking back, are aside)")
    void clashesOfOathsTakenBackAreAside() {
        people(2);
        for (int i = 0; i < 3; i++) k.swear(0, 1, 0, 1);
        k.clash(1, 2);
        k.clash(2, 0);
        same(4, k.leastReleased());
        k.undo();
        row("aside", all(k.leastReleased(), k.about(5)), 0, 2);
        k.clash(0, 1);
        same(1, k.leastReleased());
    }

    @Says("LEAST RELEASED: the fewest kept OATHS (bits) without which no two kept ones clash")
    void brokenAndReleasedOnesDontClash() {
        people(2);
        for (int i = 0; i < 5; i++) k.swear(0, 1, 0, 1);
        k.clash(0, 4);
        k.clash(4, 1);
        k.clash(2, 3);
        same(4 + 16, k.leastReleased());
        k.breaks(2);
        same(16, k.leastReleased());
        k.release(0);
        same(2, k.leastReleased());
        k.release(4);
        same(0, k.leastReleased());
    }

    @Says("no two kept ones clash; of like ones the lowest set")
    void leastReleasedIsTheLowestSet() {
        people(2);
        for (int i = 0; i < 14; i++) k.swear(0, 1, 0, 1);
        k.clash(12, 13);
        same(1 << 12, k.leastReleased());
        k.clash(12, 11);
        k.clash(13, 10);
        same((1 << 10) + (1 << 12), k.leastReleased());
        k.clash(10, 11);
        k.clash(0, 1);
        same(1 + (1 << 10) + (1 << 12), k.leastReleased());
    }

    @Says("by how many more than LEGIBLE ones")
    void forgedIsByHowManyMore() {
        people(2);
        for (int i = 0; i < 3; i++) k.swear(0, 1, 0, 1);
        k.swear(0, 1, 1, 1);
        row("left and right", all(k.forged(1, 0, 5), k.forged(1, 1, 5), k.forged(1, 0, 0), k.forged(0, 0, 99)), 2, 4, -3, 99);
        k.breaks(0);
        k.release(1);
        same(3, k.forged(1, 0, 5));
        illegible(0);
        same(5, k.forged(1, 0, 5));
    }

    @Says("WORDS (8 at most; told:")
    void wordsAreEight() {
        for (int i = 1; i <= 8; i++) same(i, k.word(1, 8));
        refused(-2, () -> k.word(1, 8));
        row("all eight", inTime(), 8, 255, 8);
    }

    @Says("so many DAYS of work 1 .. 99, due in so many DAYS 0 .. 999)")
    void wordsHaveBounds() {
        refused(-2, () -> k.word(0, 5), () -> k.word(100, 5), () -> k.word(5, -1), () -> k.word(5, 1000));
        same(1, k.word(1, 0));
        same(2, k.word(99, 999));
        row("the second alone", inTime(), 1, 2, 99);
    }

    @Says("the most that can be kept, one behind the other from now on, in any order")
    void wordsAreKeptOneBehindTheOther() {
        words(5, 10, 5, 5);
        row("the second first", inTime(), 2, 3, 10);
        words(1, 10);
        row("two of three", inTime(), 2, 3, 10);
        k.word(-1, 0);
        words(5, 9, 5, 5, 4, 9);
        row("with the third", inTime(), 2, 5, 9);
        k.word(-1, 0);
        words(2, 1);
        row("too much for one", inTime(), 0, 0, 0);
    }

    @Says("of like ones the lowest set: how many, the set (bits); the DAYS all of the set take")
    void wordsKeptAreTheLowestSet() {
        words(9, 9, 1, 9, 1, 1, 8, 9);
        // {1, 2}, {1, 3}, {2, 3} and no three
        row("the lowest two", inTime(), 2, 6, 2);
        k.word(1, 3);
        row("three", inTime(), 3, 22, 3);
    }

    // ---- IV ----

    @Says("of PEOPLE but one the one of least risk; of like ones the lowest; none")
    void whomIsTheLowestOfLeastRisk() {
        people(1);
        same(-1, k.whom(0));
        people(3);
        rule("risk if who=1 then 8 else 7 end;");
        row("7, 8, 7, 7", all(k.whom(0), k.whom(1), k.whom(2), k.whom(3)), 2, 0, 0, 0);
    }

    @Says("the shortest RING (as in STRUCK OUT;")
    void ringsAreOfKeptLegibleOnesOnTheRight() {
        threeInARing();
        k.swear(1, 0, 1, 1);
        same(1 + 16, k.ring());
        k.release(4);
        same(7, k.ring());
        k.undo();
        k.breaks(4);
        same(7, k.ring());
        k.undo();
        k.swear(3, 0, 1, 1);
        illegible(5);
        same(0, k.ring());
    }

    @Says("2 to 6 OATHS)")
    void aRingHasTwoToSixOaths() {
        people(6);
        for (int i = 0; i < 6; i++) k.swear(i, (i + 1) % 6, 1, 1);
        same(63, k.ring());
        k.swear(2, 1, 1, 1);
        same(2 + 64, k.ring());
        k.breaks(0);
        k.breaks(1);
        same(0, k.ring());
    }

    @Says("of like ones the lowest set of OATHS (bits); 0: none")
    void theRingOfTheLowestSet() {
        people(4);
        same(0, k.ring());
        k.swear(3, 2, 1, 1);
        k.swear(0, 1, 1, 1);
        same(0, k.ring());
        k.swear(1, 0, 1, 1);
        same(6, k.ring());
        k.swear(2, 3, 1, 1);
        same(6, k.ring());
        k.swear(1, 0, 1, 1);
        k.release(2);
        same(9, k.ring());
    }

    @Says("SIZES of all kept OATHS on right KNEES ON it less those BY it")
    void netsAreOfKeptOnesOnTheRight() {
        people(2);
        k.swear(0, 1, 1, 9);
        k.swear(0, 1, 0, 8);
        k.swear(1, 0, 1, 2);
        row("nets", all(k.of(0, 5), k.of(1, 5)), -7, 7);
        illegible(0);
        row("illegible ones too", all(k.of(0, 5), k.of(1, 5)), -7, 7);
        k.breaks(0);
        row("broken ones not", all(k.of(0, 5), k.of(1, 5)), 2, -2);
        k.release(2);
        row("released ones not", all(k.of(0, 5), k.of(1, 5)), 0, 0);
    }

    @Says("by which of each LEGIBLE OATH the one BY or the one ON whom it is asked; of like ones the lowest set")
    void allIsSeenByTheLowestSet() {
        people(4);
        same(0, k.allSeen());
        k.swear(2, 3, 0, 1);
        same(4, k.allSeen());
        k.swear(1, 3, 0, 1);
        same(8, k.allSeen());
        k.swear(1, 2, 0, 1);
        same(2 + 4, k.allSeen());
        k.release(0);
        same(2, k.allSeen());
        illegible(1);
        same(2, k.allSeen());
        k.swear(0, 3, 1, 1);
        same(1 + 2, k.allSeen());
    }

    @Says("ALL SEEN: the fewest PEOPLE (bits) to be asked")
    void theSixthIsAskedToo() {
        people(6);
        k.swear(5, 4, 0, 1);
        k.swear(3, 5, 0, 1);
        same(32, k.allSeen());
        for (int i = 0; i < 5; i++) k.swear(i, (i + 1) % 5, 0, 1);
        same(2 + 8 + 16, k.allSeen());
    }

    @Says("TAILORS (8 at most; told: who has seen whose KNEES)")
    void tailorsAreEight() {
        people(2);
        for (int i = 1; i <= 8; i++) same(i, k.saw(0, 1));
        refused(-2, () -> k.saw(1, 0));
    }

    @Says("WORDS KNOWN by a tailor (one of PEOPLE): LEGIBLE OATHS (bits) ON those it has seen, ON and BY itself")
    void wordsKnownAreLegible() {
        people(4);
        k.swear(1, 2, 0, 1);
        k.swear(3, 0, 0, 1);
        k.swear(0, 3, 0, 1);
        k.swear(2, 1, 0, 1);
        row("on and by", all(k.known(0), k.known(1), k.known(2), k.known(3)), 6, 9, 9, 6);
        k.saw(0, 2);
        row("seen by 0", all(k.known(0), k.known(2)), 7, 9);
        k.breaks(0);
        same(7, k.known(0));
        illegible(0);
        same(6, k.known(0));
        k.release(1);
        same(4, k.known(0));
    }

    @Says("TOGETHER: the fewest PEOPLE (bits) that know of all")
    void theSixthKnowsToo() {
        people(6);
        k.swear(0, 1, 0, 1);
        k.swear(2, 3, 0, 1);
        k.swear(4, 5, 0, 1);
        same(1 + 4 + 16, k.together());
        for (int i = 0; i < 6; i++) k.saw(5, 1);
        k.saw(5, 2);
        k.saw(5, 3);
        row("the eighth told", all(k.known(5), k.together()), 7, 32);
        k.release(0);
        k.release(1);
        same(16, k.together());
    }

    @Says("LEGIBLE OATHS together so; of like ones the lowest set")
    void togetherIsTheLowestSet() {
        people(4);
        same(0, k.together());
        k.swear(2, 3, 0, 1);
        same(4, k.together());
        k.swear(0, 1, 0, 1);
        same(1 + 4, k.together());
        k.saw(3, 1);
        same(8, k.together());
        k.saw(1, 3);
        same(2, k.together());
        k.release(0);
        k.release(1);
        same(0, k.together());
    }

    @Says("may be copied in k DAYS (0 .. 60)")
    void copiedIn0To60Days() {
        people(2);
        k.swear(0, 1, 0, 1);
        rule("wears 0;");
        row("at no gain at once", copy(0, 0, 9999), 0, 0);
        row("at a gain in 60 days", copy(0, 1, 9999), 60, -60);
    }

    @Says("it costs l (0 .. 9999), if it isn't LEGIBLE then (it FADES behind no more than k DAYS), else 0")
    void copiedAheadOfFading() {
        people(2);
        k.swear(0, 1, 0, 1);
        rule("wears 33;");
        // it fades behind 3 days: k is 2 at most, or l is lost
        row("dear", copy(0, 1, 9999), 2, -2);
        row("cheap", copy(0, 1, 57), 60, -3);
        row("at no cost", copy(0, 1, 0), 60, -60);
        refused(-100000, () -> k.copy(0, 1, -1, true), () -> k.copy(0, 1, 10000, true));
        illegible(0);
        row("too late", copy(0, 0, 9999), 0, 9999);
    }

    @Says("less c (0 .. 99) for each DAY waited")
    void copyingWaitsForAGain() {
        people(2);
        k.swear(0, 1, 0, 1);
        rule("wears 1;");
        refused(-100000, () -> k.copy(0, -1, 1, true), () -> k.copy(0, 100, 1, true));
        row("99 a day", copy(0, 99, 9999), 60, -5940);
        row("0 a day", copy(0, 0, 9999), 0, 0);
    }

    @Says("the k that costs least; of like ones the least: k, the cost")
    void copyingIsAtTheLeastK() {
        people(2);
        k.swear(0, 1, 0, 1);
        rule("wears 33;");
        // k of 2 costs -2 c, k of 60 costs l - 60 c
        row("like ones", copy(0, 2, 116), 2, -4);
        row("one less", copy(0, 2, 115), 60, -5);
        row("one more", copy(0, 2, 117), 2, -4);
    }

    @Says("WORN, 8 at most: an OATH, so much more WEAR by one kneeling, 0 .. 99;")
    void wornHasBounds() {
        people(2);
        k.swear(0, 1, 0, 1);
        refused(-2, () -> k.worn(0, -1), () -> k.worn(0, 100), () -> k.worn(1, 5));
        for (int i = 1; i <= 8; i++) same(i, k.worn(0, i % 2 * 99));
        refused(-2, () -> k.worn(0, 5));
    }

    @Says("those not sworn any more aside)")
    void wornOathsTakenBackAreAside() {
        people(2);
        tell("wears 7;");
        tell("wears 8;");
        k.swear(0, 1, 0, 1);
        k.swear(0, 1, 0, 1);
        k.worn(0, 7);
        k.worn(1, 8);
        same(0, k.whose());
        k.undo();
        row("aside", all(k.whose(), k.about(8)), 1, 2);
        k.undo();
        same(3, k.whose());
    }

    @Says("TEXTS (bits) by whose wears all are so (as now)")
    void whoseLawItWas() {
        same(0, k.whose());
        k.one(0, 0);
        k.one(4, 0);
        tell("wears 6;");
        tell("wears 6+day;");
        tell("aches 6;");
        tell("wears size;");
        same(15, k.whose());
        k.swear(0, 1, 0, 6);
        k.worn(0, 6);
        same(15, k.whose());
        k.day(1);
        same(1 + 4 + 8, k.whose());
        k.swear(0, 1, 0, 7);
        k.worn(1, 6);
        same(1 + 4, k.whose());
    }

    @Says("the one BY whom most LEGIBLE OATHS are; of like ones the lowest; none (no LEGIBLE ones)")
    void mostSwornIsTheLowest() {
        people(3);
        same(-1, k.mostSworn());
        k.swear(2, 0, 0, 1);
        k.swear(2, 1, 0, 1);
        k.swear(1, 0, 1, 1);
        same(2, k.mostSworn());
        k.swear(1, 2, 0, 1);
        same(1, k.mostSworn());
        k.release(2);
        same(2, k.mostSworn());
        illegible(0);
        same(1, k.mostSworn());
        illegible(1);
        k.release(3);
        same(-1, k.mostSworn());
    }

    @Says("PEOPLE (bits) BY whom no OATH is broken")
    void faithfulAreThoseOfNoBrokenOath() {
        people(6);
        k.swear(5, 0, 0, 1);
        k.swear(0, 1, 0, 1);
        k.breaks(1);
        same(62, k.faithful());
        k.breaks(0);
        same(30, k.faithful());
        illegible(0);
        same(30, k.faithful());
        k.release(0);
        same(62, k.faithful());
    }

    @Says("how much one ached in it together (NONE: all)")
    void achedInTheBook() {
        people(3);
        k.swear(0, 1, 0, 1);
        k.swear(0, 2, 0, 2);
        k.breaks(0);
        k.breaks(1);
        rule("aches size;");
        k.day(15);
        row("of thirty", all(k.ached(-1), k.ached(0), k.ached(1), k.ached(2)), 45, 0, 15, 30);
        k.release(1);
        k.day(1);
        row("the eldest is gone", all(k.ached(-1), k.ached(1), k.ached(2)), 45, 15, 30);
        k.day(1);
        row("and the next", all(k.ached(-1), k.ached(1), k.ached(2)), 44, 16, 28);
    }

    @Says("the DAY on which most was ached by one; of like ones the earliest; none")
    void theWorstDayIsOfOneAndTheEarliest() {
        people(3);
        same(-1, k.worstDay());
        k.swear(0, 1, 0, 1);
        k.swear(0, 2, 0, 2);
        k.breaks(0);
        k.breaks(1);
        // on DAY 2 two ache by 5 each, on DAYS 4 and 5 one by 6
        rule("aches if day=2 then 5 else if day>3 and day<6 and who=1 then 6 else 0 end end;");
        k.day(2);
        same(-1, k.worstDay());
        k.day(1);
        same(2, k.worstDay());
        k.day(9);
        same(4, k.worstDay());
    }

    // ---- V ----

    @Says("X is SEED (0 .. 9999) * 2 + 137")
    void seedsHaveBounds() {
        people(1);
        refused(-1, () -> k.years(-1, 1), () -> k.years(10000, 1));
        k.years(0, 1);
        same((137 * 367 + 241) % 30449, k.is(2));
        k.years(9999, 1);
        same((20135 * 367 + 241) % 30449, k.is(2));
    }

    @Says("n times (1 .. 40)")
    void yearsAreOneTo40() {
        people(1);
        refused(-1, () -> k.years(0, 0), () -> k.years(0, 41));
        // for one alone there are but draws and DAYS
        int next = 137, days = 0;
        for (int i = 0; i < 40; i++) {
            int x = next;
            next = (next * 367 + 241) % 30449;
            if (x % 7 < 5) continue;
            days++;
            next = (next * 367 + 241) % 30449;
        }
        same(days, k.years(0, 40));
        row("then", all(k.is(0), k.is(2), k.about(3)), days, next, 1);
    }

    @Says("x is X, X anew (as in a draw)")
    void xIsTakenAheadOfTheDraw() {
        people(2);
        k.swear(0, 1, 0, 1);
        // X 137 (mod 7 is 4, mod 3 is 2), then 20071 (mod 7 is 2, mod 5 is 1): two draws and nothing else
        k.years(0, 2);
        row("nothing is done", all(k.is(0), k.is(1), k.is(2), k.ofOath(0, 4), k.ofOath(0, 5)), 0, 0, 28089, 0, 0);
    }

    /** The lowest SEED whose first x is so in the document's words: x mod 7, and mod another number. */
    private static int seed(int mod7, int by, int rest) {
        for (int seed = 0; seed <= 9999; seed++) {
            int x = seed * 2 + 137;
            if (x % 7 == mod7 && x % by == rest) return seed;
        }
        throw new AssertionError("no seed");
    }

    @Says("x mod 7: 0 SWORN by x mod how many there are to x / 7 mod how many, KNEE x mod 2, SIZE 1 and x mod 9")
    void yearsSwear() {
        people(4);
        for (int seed = 0; k.is(3) < 3; seed++) {
            int x = seed * 2 + 137;
            int oath = k.is(3);
            boolean sworn = x % 7 == 0 && x % 4 != x / 7 % 4;
            if (x % 7 == 0) k.years(seed, 1);
            same(sworn ? oath + 1 : oath, k.is(3));
            if (sworn) row("sworn", oath(oath), x % 4, x / 7 % 4, x % 2, 1 + x % 9, 0, 0, 0, 5, 0);
        }
    }

    @Says("1 OATH x mod how many there are BROKEN")
    void yearsBreak() {
        people(2);
        for (int i = 0; i < 3; i++) k.swear(0, 1, 0, 1);
        k.years(seed(1, 3, 2), 1);
        row("the third", oaths(4), 0, 0, 1);
        k.years(seed(1, 3, 0), 1);
        row("the first", oaths(4), 1, 0, 1);
    }

    @Says("2 that one RELEASED, if x mod 5 is 0")
    void yearsReleaseOneInFive() {
        people(2);
        for (int i = 0; i < 2; i++) k.swear(0, 1, 0, 1);
        for (int rest = 1; rest < 5; rest++) k.years(seed(2, 5, rest), 1);
        row("none", oaths(4), 0, 0);
        int seed = seed(2, 5, 0);
        k.years(seed, 1);
        // x is odd by every SEED
        row("the second", oaths(4), 0, 2);
    }

    @Says("3 x mod how many KNEELS")
    void yearsKneel() {
        people(3);
        k.swear(0, 1, 0, 1);
        k.swear(0, 2, 1, 1);
        k.years(seed(3, 3, 1), 1);
        row("1 knelt", oaths(5), 5, 0);
        k.years(seed(3, 3, 2), 1);
        row("2 knelt", oaths(5), 5, 5);
        k.years(seed(3, 3, 0), 1);
        row("0 knelt", oaths(5), 5, 5);
    }

    @Says("4 it SKATES, KNEE x mod 2, if x mod 3 is 0")
    void yearsSkateOneInThree() {
        people(2);
        k.swear(0, 1, 0, 1);
        k.swear(0, 1, 1, 1);
        k.years(seed(4, 3, 1), 1);
        k.years(seed(4, 3, 2), 1);
        row("none", oaths(5), 0, 0);
        k.years(seed(4, 3, 0), 1);
        row("1 on its right", oaths(5), 0, 30);
    }

    @Says("(each if it can be)")
    void inYearsWhatCantBeIsnt() {
        people(2);
        k.swear(0, 1, 0, 1);
        k.release(0);
        k.years(seed(1, 3, 0), 1);
        k.years(seed(2, 5, 0), 1);
        // of two PEOPLE x mod 2 and x / 7 mod 2 are one
        k.years(seed(0, 3, 0), 1);
        row("as it was", oath(0), 0, 1, 0, 1, 2, 0, 0, 5, 0);
        row("steps all the same", all(k.is(3), k.is(0), k.about(3)), 1, 0, 5);
    }

    @Says("else a DAY (if it can pass)")
    void inYearsDaysPassWhileTheyCan() {
        people(2);
        days(9998);
        same(9999, k.years(seed(5, 3, 0), 1));
        int rain = k.is(1);
        same(9999, k.years(seed(6, 3, 0), 1));
        row("only the draw", all(k.is(1), k.is(2)), rain, ((seed(6, 3, 0) * 2 + 137) * 367 + 241) % 30449);
    }

    @Says("What there are none of isn't.")
    void inYearsWhatThereAreNoneOfIsnt() {
        people(1);
        for (int kind = 0; kind < 5; kind++) same(0, k.years(seed(kind, 15, 0), 1));
        row("nothing but draws", all(k.is(3), k.is(0), k.about(3)), 0, 0, 5);
    }

    @Says("It is one STEP: DAY.")
    void yearsAreOneStep() {
        people(5);
        k.swear(0, 1, 0, 1);
        int day = k.years(77, 40);
        same(day, k.is(0));
        yes(day > 0);
        same(2, k.about(3));
        same(1, k.undo());
        row("ahead of them", all(k.is(0), k.is(1), k.is(2), k.is(3)), 0, 0, 137, 1);
    }

    @Says("all as it is, but the tape and the latest FAULT")
    void theTapeAndTheFaultAreNoPartOfAnImage() {
        k.feed(0, 0, 0, 0, 0);
        k.image();
        k.end(3);
        same(-1, k.text());
        k.feed(0, 0, 0, 0, 0);
        k.end(7);
        k.back();
        row("as ahead of it", all(k.about(9), k.fault(0), k.fault(1)), 7, 1, 0);
    }

    @Says("AN IMAGE: all as it is")
    void allThatWasToldIsInAnImage() {
        people(3);
        k.swear(0, 1, 0, 9);
        k.swear(0, 2, 0, 9);
        k.day(1);
        k.felt(1, 9, 8);
        k.clash(0, 1);
        k.word(3, 3);
        k.saw(1, 2);
        k.worn(0, 5);
        tell("wears 6;day 1;");
        k.image();
        int[] due = all(k.breaches(1, 1), k.leastReleased(), k.inTime(2), k.known(1), k.whose());
        for (int i = 0; i < 3; i++) k.undo();
        for (int i = 0; i < 5; i++) tellNoMore(i);
        k.one(9, 9);
        k.felt(2, 9, 8);
        k.word(2, 2);
        k.saw(1, 0);
        k.back();
        row("about", aboutAll(), 3, 1, -1, 3, 1, 1, 1, 1, 1, 0);
        row("told", all(k.breaches(1, 1), k.leastReleased(), k.inTime(2), k.known(1), k.whose()), due);
        row("people", all(k.of(0, 1), k.of(2, 1), k.of(3, 1), k.one(1, 1)), 20, 22, -1000, 3);
    }

    private void tellNoMore(int what) {
        if (what == 0) k.felt(-1, 0, 0);
        if (what == 1) k.clash(-1, 0);
        if (what == 2) k.word(-1, 0);
        if (what == 3) k.saw(-1, 0);
        if (what == 4) k.worn(-1, 0);
    }

    @Says("BACK: all is so again.")
    void backPutsAllAsItWas() {
        oneBroken();
        rule("aches 4;");
        k.day(2);
        k.felt(0, 0, 0);
        k.image();
        k.one(1, 1);
        k.by(-1);
        tell("wears 1;");
        k.release(0);
        k.day(3);
        k.felt(-1, 0, 0);
        k.back();
        row("about", aboutAll(), 2, 1, 0, 4, 1, 0, 0, 0, 0, 0);
        row("all else", all(k.is(0), k.is(1), k.book(-1, 0), k.ofOath(0, 4), k.ofOath(0, 8)), 2, 1, 2, 1, 4);
        for (int i = 3; i >= 0; i--) same(i, k.undo());
    }
}
