/** Part II of the document: a test for each edge that a sentence there names. */
final class TextEdgeTests extends KneeTest {
    public static void main(String[] args) throws Exception {
        Edges.run(TextEdgeTests.class);
    }

    private static final String CHOICE = " then 1 else 2 end;";

    /** What 'aches' comes to for one OATH of SIZE 9 that 0 swore on 1's left KNEE on DAY 0, at DAY 0. */
    private static int aches(String sum) {
        KneeOaths o = new KneeOaths();
        o.one(3, 33);
        o.one(8, 88);
        o.swear(0, 1, 0, 9);
        Suite.same(sum, 0, Words.tell(o, "aches " + sum + ";"));
        o.by(0);
        return o.ofOath(0, 8);
    }

    private static void comesTo(int due, String sum) {
        Suite.same(sum, due, aches(sum));
    }

    private static void isSo(String either) {
        Suite.same(either, 1, aches("if " + either + " then 1 else 2 end"));
    }

    private static void isNotSo(String either) {
        Suite.same(either, 2, aches("if " + either + " then 1 else 2 end"));
    }

    // ---- texts and their TOKENS ----

    @Says("TEXTS 0 .. 3")
    void textsAreFour() {
        for (int i = 0; i <= 3; i++) same(i, tell("day 1;"));
        refused(-1, k::text);
        yes(k.by(3));
        no(k.by(4));
        same(-2, k.played(4));
    }

    @Says("of up to 300 bytes")
    void aTextHasUpTo300Bytes() {
        String text = "wears 1" + "+1".repeat(146) + ";";
        same(300, text.length());
        same(0, tell(text));
        fault(1, 299, " ".repeat(299) + "?");
        fault(1, 299, "day 1;" + "\n".repeat(293) + ";");
        for (int i = 0; i < 15; i++) k.feed(0x20202020, 0x20202020, 0x20202020, 0x20202020, 0x20202020);
        refused(-1, () -> k.feed(0, 0, 0, 0, 0));
        same(1, k.text());
    }

    @Says("blanks (32, 10) aside")
    void just32And10AreBlanks() {
        fine("day 1;");
        fine("day\n1;");
        fine("\n \n day \n\n 1 ;\n");
        for (int b = 0; b < 256; b++) {
            boolean token = b >= '0' && b <= '9' || b >= 'a' && b <= 'z' || b >= 'A' && b <= 'Z';
            if (!token && b % 8 == 1) fault(1, 3, "day" + (char) b + "1;");
        }
        for (char b : new char[] {0, 9, 11, 12, 13, 31, 33, 127, 128, 160, 255}) fault(1, 3, "day" + b + "1;");
    }

    @Says("letters a .. z, A .. Z one behind the other (one TOKEN)")
    void lettersBesideOneAnotherAreOneToken() {
        fault(1, 0, "dayday 1;");
        fault(1, 0, "DAY 1;");
        fault(1, 0, "daZ 1;");
        for (String letter : new String[] {"a", "z", "A", "Z", "m", "M"}) fault(1, 0, "day" + letter + " 1;");
        fault(1, 0, "da y 1;");
        fault(1, 0, "da");
        fault(1, 3, "day[1;");
        fault(1, 3, "day@1;");
        fault(1, 3, "day`1;");
        fault(1, 3, "day{1;");
        fine("day1;wears day;");
    }

    @Says("digits likewise (NUMBERS, 0 .. 9999)")
    void digitsBesideOneAnotherAreOneNumber() {
        fault(1, 6, "day 1 2;");
        fault(1, 5, "day 1a;");
        fine("wears 0;aches 9999;risk 00009999;");
        fault(2, 6, "wears 10000;");
        fault(2, 6, "wears 010000;");
        fault(2, 6, "wears 99999999999999999999;");
        fault(1, 5, "day 9/;");
        fault(1, 5, "day 9:;");
    }

    @Says("<= >= < > = # + - * / ( ) , ; (the longest)")
    void theLongestSignIsTaken() {
        fine("wears if 1<=1" + CHOICE);
        fine("wears if 1>=1" + CHOICE);
        fault(1, 12, "wears if 1< =1" + CHOICE);
        fault(1, 12, "wears if 1> =1" + CHOICE);
        fault(1, 12, "wears if 1<==1" + CHOICE);
        fault(1, 11, "wears if 1=<1" + CHOICE);
        fault(1, 11, "wears if 1#=1" + CHOICE);
        fault(1, 11, "wears if 1<>1" + CHOICE);
        isSo("1<=1");
        isNotSo("1<1");
        isSo("1>=1");
        isNotSo("1>1");
    }

    // ---- CLAUSES ----

    @Says("{CLAUSE}, 24 at most")
    void noneTo24ClausesAreRead() {
        fine("");
        fine(" \n");
        fine("day 1;".repeat(24));
        fault(6, 144, "day 1;".repeat(25));
    }

    @Says("wears SUM ; or aches SUM ; or risk SUM ; (each once)")
    void eachLawIsThereOnce() {
        fine("wears 1;aches 1;risk 1;");
        fine("risk 1;aches 1;wears 1;");
        fault(4, 23, "wears 1;aches 1;risk 1;wears 1;");
        fault(4, 23, "wears 1;aches 1;risk 1;aches 1;");
        fault(4, 7, "risk 1;risk 1;");
    }

    @Says("one NUMBER age NUMBER ; (TOUGH)")
    void oneIsToldByToughAndAge() {
        same(-1, k.played(tell("one 9 age 0;one 0 age 99;")));
        row("as told", all(k.of(0, 0), k.of(0, 1), k.of(1, 0), k.of(1, 1)), 9, 0, 0, 99);
        fault(1, 6, "one 1 tough 2;");
        fault(1, 4, "one age 1;");
    }

    @Says("swear NUMBER to NUMBER right NUMBER ; (BY, ON, SIZE)")
    void swearingNamesByOnAndSize() {
        people(3);
        same(-1, k.played(tell("swear 2 to 1 right 9;swear 1 to 2 left 8;")));
        row("right", oath(0), 2, 1, 1, 9, 0, 0, 0, 5, 0);
        row("left", oath(1), 1, 2, 0, 8, 0, 0, 0, 5, 0);
        fault(1, 13, "swear 0 to 1 1 1;");
    }

    @Says("skate NUMBER ; (left KNEE)")
    void aTextSkatesOnTheLeft() {
        people(2);
        k.swear(0, 1, 0, 1);
        k.swear(0, 1, 1, 1);
        same(-1, k.played(tell("skate 1;")));
        row("wear", oaths(5), 30, 0);
    }

    // ---- SUMS ----

    @Says("(how many LEGIBLE OATHS are ON the one of that number; 0 if none such is told)")
    void marksOfNobodyAreNone() {
        comesTo(1, "marks 1");
        comesTo(0, "marks 0");
        comesTo(0, "marks 2");
        comesTo(0, "marks 6");
        comesTo(0, "marks -1");
        comesTo(0, "marks 9999");
        comesTo(0, "marks(9999*9999)+marks-(9999*9999)");
    }

    @Says("marks ONE (how many LEGIBLE")
    void marksAreOfLegibleOnes() {
        people(3);
        for (int i = 0; i < 3; i++) k.swear(0, 1, i % 2, 1);
        rule("wears if knee=1 then 99 else 0 end;aches marks 1;");
        same(3, k.ofOath(0, 8));
        k.breaks(0);
        same(3, k.ofOath(0, 8));
        k.kneel(1);
        same(2, k.ofOath(0, 8));
        k.release(0);
        same(1, k.ofOath(0, 8));
    }

    @Says("(1 to 6: one of them is so, and no other one)")
    void justOneOfSomeIsSo() {
        isSo("just(1=1)");
        isNotSo("just(1=2)");
        isSo("just(1=2,1=1)");
        isNotSo("just(1=1,1=1)");
        isSo("just(1=2,1=2,1=2,1=2,1=2,1=1)");
        isSo("just(1=1,1=2,1=2,1=2,1=2,1=2)");
        isNotSo("just(1=2,1=2,1=2,1=2,1=2,1=2)");
        isNotSo("just(1=1,1=2,1=2,1=2,1=2,1=1)");
        isNotSo("just(1=1,1=1,1=1)");
        isNotSo("just(1=1,1=1,1=1,1=1,1=1,1=1)");
        fault(1, 14, "wears if just()" + CHOICE);
    }

    @Says("SUM one of < <= > >= = # (unlike) SUM")
    void eachSignAtItsEdge() {
        for (String so : new String[] {"1<2", "1<=2", "2<=2", "2>1", "2>=1", "2>=2", "2=2", "1#2", "2#1", "-1<0", "0>-1"}) isSo(so);
        for (String not : new String[] {"2<2", "3<2", "3<=2", "2>2", "1>2", "1>=2", "1=2", "2=1", "2#2"}) isNotSo(not);
        fault(1, 11, "wears if 1" + CHOICE);
    }

    @Says("tough, age (of the one ON whom it is, or of whom risk is), who (its number) in all")
    void namesOfTheOneOnWhomItIs() {
        k.one(3, 33);
        k.one(8, 88);
        k.swear(0, 1, 0, 9);
        rule("wears tough;aches age;risk tough*1000+age*10+who;");
        row("of 1", all(k.ofOath(0, 7), k.ofOath(0, 8), k.of(1, 4), k.of(0, 4)), 8, 88, 8881, 3330);
    }

    @Says("size, knee, wear, since (DAYS since it was sworn), by (the number of the one BY whom) in wears, aches")
    void namesOfAnOath() {
        people(3);
        k.day(2);
        k.swear(2, 1, 1, 7);
        same(0, tell("wears since;"));
        k.by(0);
        same(0, k.ofOath(0, 7));
        k.day(3);
        same(3, k.ofOath(0, 7));
        k.kneel(1);
        for (String[] due : new String[][] {{"size", "7"}, {"knee", "1"}, {"wear", "3"}}) {
            rule("aches " + due[0] + ";");
            Suite.same(due[0], due[1], "" + k.ofOath(0, 8));
        }
        k.by(0);
        same(3, k.ofOath(0, 7));
    }

    @Says("by (the number of the one BY whom)")
    void byIsTheOneByWhom() {
        people(6);
        k.swear(5, 1, 1, 7);
        k.swear(0, 1, 1, 7);
        rule("wears by;aches by*by;");
        row("by", all(k.ofOath(0, 7), k.ofOath(1, 7), k.ofOath(0, 8), k.ofOath(1, 8)), 5, 0, 25, 0);
    }

    @Says("From the left;")
    void likeSignsAreWorkedFromTheLeft() {
        comesTo(5, "9-3-1");
        comesTo(6, "8/4*3");
        comesTo(0, "3/4*8");
        comesTo(7, "9-3+1");
        comesTo(1, "8/4/2");
    }

    @Says("/ cuts towards 0")
    void divisionCutsTowards0() {
        comesTo(3, "7/2");
        comesTo(6, "(-7)/2+9");
        comesTo(6, "7/(-2)+9");
        comesTo(3, "(-7)/(-2)");
        comesTo(0, "1/2");
        comesTo(9, "-1/2+9");
    }

    @Says("by 0 it is 0")
    void dividedBy0ItIs0() {
        comesTo(0, "7/0");
        comesTo(5, "5+9999*9999/0");
        comesTo(5, "5-7/(1-1)");
        comesTo(0, "0/0");
    }

    @Says("what is above 1000000")
    void aMillionIsTheMost() {
        comesTo(1, "1000*1000-(1000*1000-1)");
        comesTo(0, "1000*1000+1-1000*1000");
        comesTo(90, "1000*1000+10-10-(1000*1000-100)");
        comesTo(0, "9999*9999-1000*1000");
        comesTo(1, "9999*9999/1000/1000");
    }

    @Says("(below the same less)")
    void aMillionLessIsTheLeast() {
        comesTo(1, "1-1000*1000+1000*1000");
        comesTo(0, "-1000*1000-1+1000*1000");
        comesTo(10, "-1000*1000-10+10+1000*1000");
        comesTo(0, "-9999*9999+1000*1000");
        isSo("-1000*1000-1=-1000*1000");
        isSo("-1000*1000-1+2=2-1000*1000");
        comesTo(1, "0-(0-9999)*9999/1000/1000");
    }

    @Says("is that, at each step")
    void theBoundHoldsAtEachStep() {
        comesTo(10, "9999*9999*9999/1000/100");
        comesTo(10, "(9999*9999)*(9999*9999)*(9999*9999)/1000/100");
        isSo("9999*9999=1000*1000");
        isSo("-9999*9999=-1000*1000");
    }

    @Says("All of or, and, just is asked always, of if just the SUM that is chosen.")
    void theSumThatIsNotChosenIsNothing() {
        comesTo(3, "if 1=1 then 3 else 9999*9999/0 end");
        comesTo(4, "if 1=2 then 9999*9999/0 else 4 end");
        comesTo(7, "if 1=1 then if 1=2 then 5 else 7 end else if 1=1 then 8 else 9 end end");
        isSo("1=1 or 1/0=1");
        isSo("1=2 or 1=1");
        isNotSo("1=2 and 1=1");
        isNotSo("1=1 and 1=2");
        isNotSo("not 1=1 and 1=2");
        isSo("not(1)=2 and not not 1=1");
        isSo("1=1 or 1=1 and 1=2");
    }

    // ---- FAULTS ----

    @Says("FAULTS, the first as TOKENS are come to")
    void theFirstFaultIsTold() {
        fault(2, 4, "day 61; day 62; $");
        fault(1, 7, "day 60;$ day 61;");
        fault(5, 5, "risk size+10000;");
        fault(2, 5, "risk 10000+size;");
    }

    @Says("at the TOKEN's first byte (of the end at the length)")
    void aFaultIsAtAFirstByteOrTheLength() {
        fault(1, 2, "  wearss 1;");
        fault(2, 6, "wears 12345;");
        fault(1, 3, "day");
        fault(1, 6, "day   ");
        fault(1, 5, "day 1");
        fault(1, 7, "day 1 \n");
        String full = "day 1;".repeat(23) + " ".repeat(158) + "day ";
        same(300, full.length());
        fault(1, 300, full);
    }

    @Says("of one the least:")
    void ofOneTokenTheLeastFaultIsTold() {
        fault(1, 6, "day 1 10000;");
        fault(1, 4, "day size;");
        fault(1, 15, "wears ((((((((1(;");
        fault(4, 146, "wears 1;" + "day 1;".repeat(23) + "wears 1;");
        fault(1, 144, "day 1;".repeat(24) + "size");
        fault(1, 36, "wears if just(1=1,1=1,1=1,1=1,1=1,1=,");
    }

    @Says("1 it can't stand there, or is none.")
    void aTokenThatCantStandThereOrIsNone() {
        fault(1, 0, ";");
        fault(1, 4, "day ;");
        fault(1, 4, "day !;");
        fault(1, 0, "\u00ff");
        fault(1, 8, "wears 1 1;");
        fault(1, 7, "wears 1=1;");
        fault(1, 9, "wears if then 1 else 2 end;");
        fault(1, 6, "wears not 1=1;");
        fault(1, 6, "wears and;");
    }

    @Says("2 a NUMBER that isn't one of those told (above 9999;")
    void aNumberAbove9999() {
        fine("wears 9999;");
        fault(2, 6, "wears 10000;");
        fault(2, 4, "day 10000;");
        fault(2, 6, "break 10000;");
    }

    @Says("TOUGH 0 .. 9, AGE 0 .. 99, PEOPLE")
    void numbersOfToughAndAge() {
        fine("one 0 age 0;one 9 age 99;");
        fault(2, 4, "one 10 age 0;");
        fault(2, 10, "one 9 age 100;");
    }

    @Says("PEOPLE 0 .. 5, SIZE")
    void numbersOfPeople() {
        fine("swear 0 to 5 left 1;swear 5 to 0 left 1;kneel 0;kneel 5;skate 0;skate 5;");
        fault(2, 6, "swear 6 to 0 left 1;");
        fault(2, 11, "swear 0 to 6 left 1;");
        fault(2, 6, "kneel 6;");
        fault(2, 6, "skate 6;");
    }

    @Says("SIZE 1 .. 9, OATHS")
    void numbersOfSize() {
        fine("swear 0 to 1 left 1;swear 0 to 1 right 9;");
        fault(2, 18, "swear 0 to 1 left 0;");
        fault(2, 18, "swear 0 to 1 left 10;");
        fault(2, 19, "swear 0 to 1 right 0;");
        fault(2, 19, "swear 0 to 1 right 10;");
    }

    @Says("OATHS 0 .. 13, DAYS")
    void numbersOfOaths() {
        fine("break 0;break 13;release 0;release 13;");
        fault(2, 6, "break 14;");
        fault(2, 8, "release 14;");
    }

    @Says("DAYS 1 .. 60). 3")
    void numbersOfDays() {
        fine("day 1;day 60;");
        fault(2, 4, "day 0;");
        fault(2, 4, "day 61;");
    }

    @Says("3 the 9th of ( not just marks if and - (of one ONE) that are open around one another")
    void theNinthThatIsOpen() {
        String[] openers = {"(", "-", "marks "};
        for (String opener : openers) {
            fine("wears " + opener.repeat(8) + "1" + (opener.equals("(") ? ")".repeat(8) : "") + ";");
            fault(3, 6 + 8 * opener.length(), "wears " + opener.repeat(9) + "1");
        }
        fine("wears " + "if 1=1 then ".repeat(8) + "1" + " else 2 end".repeat(8) + ";");
        fault(3, 6 + 8 * 12, "wears " + "if 1=1 then ".repeat(9));
        fine("wears if " + "not ".repeat(7) + "1=1" + CHOICE);
        fault(3, 9 + 7 * 4, "wears if " + "not ".repeat(8) + "1=1" + CHOICE);
        fine("wears if " + "just(".repeat(7) + "1=1" + ")".repeat(7) + CHOICE);
        fault(3, 9 + 7 * 5, "wears if " + "just(".repeat(8));
        fault(3, 40, "wears (-marks if not just(1=1,1=2 and (((1");
    }

    @Says("(at it; the ( of just is no other one)")
    void theBracketOfJustIsNoOtherOne() {
        fine("wears if just(" + "(".repeat(6) + "1" + ")".repeat(6) + "=1)" + CHOICE);
        fault(3, 20, "wears if just(" + "(".repeat(7));
    }

    @Says("open around one another")
    void whatIsClosedIsOpenNoMore() {
        fine("wears " + "(1)+".repeat(12) + "1;");
        fine("wears " + "-1*".repeat(12) + "1;");
        fine("wears " + "marks 1-".repeat(12) + "1;");
        fine("wears " + "if 1=1 then 1 else 2 end+".repeat(10) + "1;");
        fine("wears if " + "not 1=1 or ".repeat(12) + "1=1" + CHOICE);
        fine("wears if " + "just(1=1)and ".repeat(12) + "1=1" + CHOICE);
        fine("wears 1---------1;");
        fault(3, 16, "wears 1----------1;");
    }

    @Says("4 wears, aches, risk for the second time (at it)")
    void aLawForTheSecondTime() {
        fault(4, 8, "wears 1;wears 1;");
        fault(4, 8, "aches 1;aches 1;");
        fault(4, 7, "risk 1;risk 1;");
        fault(4, 16, "wears 1;aches 1;wears 1;");
        fault(4, 8, "wears 1;wears");
    }

    @Says("5 a NAME that isn't of that CLAUSE (at it)")
    void aNameThatIsNotOfTheClause() {
        for (String name : new String[] {"size", "knee", "wear", "since", "by"}) {
            fault(5, 5, "risk " + name + ";");
            fine("wears " + name + ";aches " + name + ";");
        }
        fine("risk day+rain+tough+age+who;");
        fault(5, 13, "risk 1+marks size;");
    }

    @Says("6 the 25th CLAUSE (at its first TOKEN)")
    void theTwentyFifthClause() {
        fault(6, 145, "day 1;".repeat(24) + " day 61;");
        fault(6, 144 + 2, "wears 1;" + "day 1;".repeat(23) + "aches");
        fine("day 1;".repeat(24) + "  ");
    }

    @Says("7 the , ahead of the 7th of one just (at it)")
    void theSeventhOfOneJust() {
        String six = "1=1,1=1,1=1,1=1,1=1,1=1";
        fine("wears if just(" + six + ")" + CHOICE);
        fault(7, 37, "wears if just(" + six + ",1=1)" + CHOICE);
        fault(7, 37, "wears if just(" + six + ",");
        fine("wears if just(just(" + six + "),just(" + six + "))" + CHOICE);
        fault(7, 42, "wears if just(just(" + six + ",1=1))" + CHOICE);
    }

    // ---- what rules, what is played ----

    @Says("THE TEXT (told; at first none) rules")
    void atFirstNoTextRules() {
        people(2);
        k.swear(0, 1, 0, 9);
        tell("wears 77;");
        row("none", all(k.about(2), k.ofOath(0, 7)), -1, 5);
        k.by(0);
        row("told", all(k.about(2), k.ofOath(0, 7)), 0, 77);
    }

    @Says("wears: 0 at least, 99 at most")
    void wearsHasBounds() {
        people(2);
        k.swear(0, 1, 0, 9);
        String[] laws = {"wears -1;", "wears 0;", "wears 99;", "wears 100;"};
        int[] due = {0, 0, 99, 99};
        for (int i = 0; i < 4; i++) {
            rule(laws[i]);
            same(due[i], k.ofOath(0, 7));
        }
    }

    @Says("without: 10 less TOUGH")
    void withoutALawItWearsBy10LessTough() {
        k.one(0, 0);
        k.one(9, 0);
        k.swear(0, 1, 0, 9);
        k.swear(1, 0, 0, 9);
        row("wears", all(k.ofOath(0, 7), k.ofOath(1, 7)), 1, 10);
        rule("aches 1;");
        row("a text without it", all(k.ofOath(0, 7), k.ofOath(1, 7)), 1, 10);
    }

    @Says("aches: 0 at least, 99 at most")
    void achesHasBounds() {
        comesTo(0, "-1");
        comesTo(0, "0");
        comesTo(99, "99");
        comesTo(99, "100");
        comesTo(99, "9999*9999");
        comesTo(0, "-9999*9999");
    }

    @Says("without: SIZE times RAIN by 10, cut")
    void withoutALawItAchesBySizeTimesRain() {
        people(2);
        for (int size = 1; size <= 9; size++) k.swear(0, 1, 0, size);
        k.day(1);
        row("at 7", all(k.ofOath(0, 8), k.ofOath(1, 8), k.ofOath(2, 8), k.ofOath(8, 8)), 0, 1, 2, 6);
        k.day(2);
        same(9, k.is(1));
        row("at 9", all(k.ofOath(0, 8), k.ofOath(1, 8), k.ofOath(8, 8)), 0, 1, 8);
        rule("wears 1;");
        same(8, k.ofOath(8, 8));
    }

    @Says("risk: 0 at least, 9999 at most")
    void riskHasBounds() {
        k.one(9, 0);
        same(0, k.of(0, 4));
        String[] laws = {"risk -1;", "risk 9999;", "risk 9999+1;"};
        int[] due = {0, 9999, 9999};
        for (int i = 0; i < 3; i++) {
            rule(laws[i]);
            same(due[i], k.of(0, 4));
        }
    }

    @Says("without: marks of it, 10 times, less TOUGH")
    void withoutALawTheRiskIsOfMarks() {
        k.one(9, 0);
        k.one(0, 0);
        for (int i = 0; i < 14; i++) k.swear(1, 0, 0, 1);
        row("fourteen and none", all(k.of(0, 4), k.of(1, 4)), 131, 0);
        k.release(0);
        same(121, k.of(0, 4));
        rule("wears 1;");
        same(121, k.of(0, 4));
    }

    @Says("its CLAUSES but laws, in their order, as by hand")
    void lawsAreNotPlayed() {
        same(0, tell("wears 1;one 1 age 1;one 2 age 2;aches 1;swear 1 to 0 left 3;break 0;risk 1;day 2;"));
        same(-1, k.played(0));
        row("done", all(k.about(0), k.is(3), k.is(0), k.about(3), k.about(2)), 2, 1, 2, 4, -1);
        same(1, k.ofOath(0, 4));
    }

    @Says("one that can't be ends it")
    void aClauseThatCantBeEndsIt() {
        people(2);
        k.swear(0, 1, 0, 1);
        k.image();
        for (String cant : new String[] {"swear 1 to 1 left 1;", "swear 0 to 2 left 1;", "break 1;", "release 1;", "kneel 2;"}) {
            int text = tell(cant + "day 1;");
            refused(0, () -> k.played(text));
            k.back();
        }
    }

    @Says("of so many DAYS those that can pass do")
    void ofDaysThoseThatCanPassDo() {
        days(9996);
        tell("day 1;day 3;day 1;");
        same(1, k.played(0));
        row("three have passed", all(k.is(0), k.about(3)), 9999, 30);
        for (int i = 8; i >= 6; i--) {
            k.undo();
            same(9990 + i, k.is(0));
        }
        tell("day 3;break 0;");
        same(1, k.played(1));
        same(9999, k.is(0));
    }

    @Says("its number among all CLAUSES (from 0)")
    void lawsAreCountedToo() {
        tell("wears 1;aches 1;break 0;");
        tell("break 0;");
        tell("one 1 age 1;".repeat(7) + "day 1;");
        row("which can't be", all(k.played(0), k.played(1), k.played(2)), 2, 0, 6);
    }

    @Says("what was done stays")
    void whatWasDoneAheadStays() {
        same(3, k.played(tell("one 1 age 1;one 1 age 1;swear 0 to 1 left 9;release 1;day 9;")));
        row("two people and an oath", all(k.about(0), k.is(3), k.is(0), k.about(3)), 2, 1, 0, 1);
    }
}
