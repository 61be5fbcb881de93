import java.lang.reflect.Method;
import java.util.Arrays;
import java.util.Comparator;
import java.util.Set;
import java.util.TreeSet;

/** One test or more for each promise of ../shared/DOC.md; promise07... is of promise 7. */
final class PromiseTests extends KneeTest {
    public static void main(String[] args) throws Exception {
        Suite suite = new Suite("PromiseTests");
        Method[] methods = PromiseTests.class.getDeclaredMethods();
        Arrays.sort(methods, Comparator.comparing(Method::getName));
        Set<String> tested = new TreeSet<>();
        for (Method m : methods) {
            if (!m.getName().startsWith("promise")) continue;
            tested.add(m.getName().substring(7, 9));
            suite.run(m.getName(), () -> m.invoke(new PromiseTests()));
        }
        suite.run("each promise has a test", () -> Suite.same("promises", 49, tested.size()));
        suite.close();
    }

    /** An object on DAY 2 at RAIN 1, with one oath of 0 on 1, on the right, worn by 30. */
    private static KneeOaths oneOath() {
        KneeOaths o = new KneeOaths();
        o.one(3, 44);
        o.one(7, 55);
        o.swear(0, 1, 1, 8);
        o.day(2);
        o.skate(1, 1);
        return o;
    }

    private static int lawOf(String sum) {
        KneeOaths o = oneOath();
        same(0, Words.tell(o, "aches " + sum + ";"));
        yes(o.by(0));
        return o.ofOath(0, 8);
    }

    private static void comesTo(String due, String sum) {
        Suite.same(sum, 1, lawOf("if " + sum + "=" + due + " then 1 else 2 end"));
    }

    // ---- the face, people, the tape, texts ----

    void promise01ANewObjectHasNobody() {
        same(-1, KneeOaths.NONE);
        row("about", aboutAll(), 0, 0, -1, 0, 0, 0, 0, 0, 0, 0);
        row("is", all(k.is(0), k.is(1), k.is(2), k.is(3)), 0, 0, 137, 0);
        same(0, k.book(-1, 0));
        same(-1, k.undo());
        same(-1, k.fault(0));
    }

    void promise01TheImageIsANewObject() {
        people(3);
        k.swear(0, 1, 0, 5);
        k.day(3);
        k.word(1, 2);
        tell("day 1;");
        same(0, k.back());
        row("about", aboutAll(), 0, 0, -1, 0, 0, 0, 0, 0, 0, 0);
        row("is", all(k.is(0), k.is(1), k.is(2), k.is(3)), 0, 0, 137, 0);
    }

    void promise02SixPeopleAreToldOneByOne() {
        int[][] wrong = {{-1, 5}, {10, 5}, {5, -1}, {5, 100}, {Integer.MIN_VALUE, 0}, {0, Integer.MAX_VALUE}};
        for (int[] w : wrong) same(-1, k.one(w[0], w[1]));
        same(0, k.about(0));
        same(0, k.one(0, 0));
        same(1, k.one(9, 99));
        for (int i = 2; i < 6; i++) same(i, k.one(i, i));
        same(-1, k.one(1, 1));
        same(6, k.about(0));
        same(0, k.about(3));
        row("the first", all(k.of(0, 0), k.of(0, 1), k.of(1, 0), k.of(1, 1)), 0, 0, 9, 99);
    }

    void promise03TwentyBytesComeBehindTheTape() {
        for (int i = 1; i <= 15; i++) same(20 * i, k.feed(i, i, i, i, i));
        same(-1, k.feed(0, 0, 0, 0, 0));
        same(300, k.about(9));
        same(281, k.end(281));
        same(-1, k.feed(0, 0, 0, 0, 0));
        same(281, k.about(9));
        same(280, k.end(280));
        same(300, k.feed(0, 0, 0, 0, 0));
    }

    void promise03TheHighestByteOfTheFirstIsFirst() {
        same(20, k.feed(('d' << 24) | ('a' << 16) | ('y' << 8) | ' ', ('6' << 24) | ('1' << 16) | (';' << 8) | 0xff, -1, -1, -1));
        same(-1, k.text());
        row("fault", all(k.fault(0), k.fault(1)), 2, 4);
        same(20, k.feed(('d' << 24) | ('a' << 16) | ('y' << 8) | ' ', ('6' << 24) | ('0' << 16) | (';' << 8) | 0xff, -1, -1, -1));
        same(-1, k.text());
        row("fault", all(k.fault(0), k.fault(1)), 1, 7);
    }

    void promise04TheTapeIsCut() {
        same(0, k.end(0));
        same(-1, k.end(1));
        same(-1, k.end(-1));
        k.feed(1, 2, 3, 4, 5);
        same(-1, k.end(21));
        same(-1, k.end(Integer.MAX_VALUE));
        same(-1, k.end(Integer.MIN_VALUE));
        same(20, k.about(9));
        same(20, k.end(20));
        same(7, k.end(7));
        same(7, k.about(9));
        same(-1, k.end(8));
        same(27, k.feed(1, 2, 3, 4, 5));
        same(0, k.end(0));
    }

    void promise05FourTextsAreRead() {
        same(0, k.text());
        same(1, tell("day 1;"));
        same(0, k.about(9));
        same(-1, tell("day"));
        same(0, k.about(9));
        same(2, k.about(1));
        same(2, tell("\n day\n1 \n;\n"));
        same(3, tell("wears 1;"));
        same(-1, tell("day 61;"));
        same(7, k.about(9));
        row("not read", all(k.fault(0), k.fault(1)), 0, -1);
        same(4, k.about(1));
    }

    void promise05ATextOf300BytesIsRead() {
        String text = "wears " + "1+".repeat(146) + "1;";
        fine(text + " ");
        same(0, tell(text + " "));
        people(2);
        k.swear(0, 1, 0, 1);
        k.by(0);
        same(99, k.ofOath(0, 7));
    }

    void promise05EveryClauseIsRead() {
        fine("one 0 age 0;one 9 age 99;swear 0 to 5 left 1;swear 5 to 0 right 9;break 0;break 13;release 13;"
            + "kneel 5;skate 5;day 1;day 60;swear 1 to 1 left 1;");
        fine("wears size;aches wear;risk who;");
        fine("wears 0009999;");
        fine("aches day+rain-tough*age/who+size+knee+wear+since+by;risk day+rain+tough+age+who;");
        fine("wears1;aches2;day3;");
        fine("wears if 1<2 or 1<=2 and 1>2 or not 1>=2 then 1 else 2 end;");
        fine("wears if just(1=1)or just(1#1,2=2,3=3,4=4,5=5,6=6)then-1 else--1 end;");
        fine("wears marks marks-(1);");
    }

    void promise06FaultsOfATokenThatCantStandThere() {
        same(-1, k.fault(0));
        same(-1, k.fault(1));
        fault(1, 0, "x");
        fault(1, 0, "Day 1;");
        for (String sign : new String[] {"A", "Z", "a", "z", "M", "m"}) fault(1, 0, "day" + sign + " 1;");
        for (String sign : new String[] {"@", "[", "`", "{", "_"}) fault(1, 3, "day" + sign + " 1;");
        for (String sign : new String[] {":", "!", "."}) fault(1, 5, "day 6" + sign + ";");
        fault(1, 0, "\t");
        fault(1, 0, "\0");
        fault(1, 1, " \u00e9");
        fault(1, 7, "day 1 \n");
        fault(1, 3, "day");
        fault(1, 4, "day ;");
        fault(1, 4, "day day;");
        fault(1, 6, "day 1 1;");
        fault(1, 4, "day $;");
        fault(1, 7, "day 1; ;");
        fault(1, 0, "size 1;");
        fault(1, 6, "one 1 to 2;");
        fault(1, 8, "swear 0 of 1 left 1;");
        fault(1, 13, "swear 0 to 1 up 1;");
        fault(1, 18, "swear 0 to 1 left ;");
        same(-1, k.fault(2));
        same(-1, k.fault(-1));
    }

    void promise06FaultsOfATokenThatCantStandInASum() {
        fault(1, 6, "wears ;");
        fault(1, 6, "wears wears;");
        fault(1, 6, "wears not 1=1;");
        fault(1, 6, "wears just(1=1);");
        fault(1, 8, "wears 1 2;");
        fault(1, 8, "wears 1+;");
        fault(1, 7, "wears 1=1;");
        fault(1, 8, "wears (1;");
        fault(1, 7, "wears (;");
        fault(1, 11, "wears marks;");
        fault(1, 6, "wears +1;");
        fault(1, 6, "wears left;");
        fault(1, 9, "wears if then 1 else 2 end;");
        fault(1, 11, "wears if 1 then 2 else 3 end;");
        fault(1, 11, "wears if 1==2 then 1 else 2 end;");
        fault(1, 11, "wears if 1=>2 then 1 else 2 end;");
        fault(1, 11, "wears if 1<>2 then 1 else 2 end;");
        fault(1, 12, "wears if 1<2<3 then 1 else 2 end;");
        fault(1, 13, "wears if 1=1 ) then 1 else 2 end;");
        fault(1, 11, "wears if (1=1) then 1 else 2 end;");
        fault(1, 12, "wears if 1<2;");
        fault(1, 20, "wears if 1<2 then 1 end;");
        fault(1, 26, "wears if 1<2 then 1 else 2;");
        fault(1, 14, "wears if just 1=1 then 1 else 2 end;");
        fault(1, 14, "wears if just() then 1 else 2 end;");
        fault(1, 18, "wears if just(1=1,) then 1 else 2 end;");
        fault(1, 18, "wears if just(1=1 then 1 else 2 end;");
        fault(1, 13, "wears if not ) then 1 else 2 end;");
        fault(1, 15, "wears if not 1 then 1 else 2 end;");
        fault(1, 16, "wears if 1=1 or or 2=2 then 1 else 2 end;");
        fault(1, 17, "wears if 1=1 and and 2=2 then 1 else 2 end;");
        fault(1, 16, "wears if 1=1 or then 1 else 2 end;");
        fault(1, 17, "wears if 1=1 and then 1 else 2 end;");
        fault(1, 11, "wears if 1=then 1 else 2 end;");
        fault(1, 22, "wears if just(1=1,2=2,) then 1 else 2 end;");
        fault(1, 13, "wears if not then 1 else 2 end;");
        fault(1, 8, "wears 1*;");
        fault(1, 8, "wears 1/;");
        fault(1, 7, "wears -;");
    }

    void promise06FaultsOfNumbers() {
        fault(2, 4, "one 10 age 0;");
        fault(2, 10, "one 0 age 100;");
        fault(2, 6, "swear 6 to 0 left 1;");
        fault(2, 11, "swear 0 to 6 left 1;");
        fault(2, 18, "swear 0 to 1 left 0;");
        fault(2, 19, "swear 0 to 1 right 10;");
        fault(2, 6, "break 14;");
        fault(2, 8, "release 14;");
        fault(2, 6, "kneel 6;");
        fault(2, 6, "skate 6;");
        fault(2, 4, "day 0;");
        fault(2, 4, "day 61;");
        fault(2, 6, "wears 10000;");
        fault(2, 8, "wears 1+99999999999999999999999;");
        fault(2, 6, "kneel 4294967296;");
        fault(1, 6, "day 1 10000;");
        fine("wears 9999;");
    }

    void promise06FaultsOfDepth() {
        fine("wears ((((((((1))))))));");
        fault(3, 14, "wears (((((((((1)))))))));");
        fine("wears --------1;");
        fault(3, 14, "wears ---------1;");
        fault(3, 14, "wears (--------1);");
        fine("wears 1---------1;");
        fault(3, 54, "wears " + "marks ".repeat(9) + "1;");
        fine("wears " + "marks ".repeat(8) + "1;");
        fine("wears if " + "not ".repeat(7) + "1=1 then 1 else 2 end;");
        fault(3, 37, "wears if " + "not ".repeat(8) + "1=1 then 1 else 2 end;");
        fine("wears if just(just(just(just(just(just(just(1=1))))))) then 1 else 2 end;");
        fault(3, 44, "wears if " + "just(".repeat(8) + "1=1" + ")".repeat(8) + " then 1 else 2 end;");
        fine("wears if 1=((((((( 1))))))) then ((((((( 1))))))) else ((((((( 1))))))) end+((((((((1))))))));");
        fault(3, 32, "wears if 1=1 then 1 else (((((((( 1)))))))) end;");
        fine("wears " + "if 1=1 then ".repeat(8) + "1" + " else 2 end".repeat(8) + ";");
        fault(3, 102, "wears " + "if 1=1 then ".repeat(9) + "1" + " else 2 end".repeat(9) + ";");
        fine("wears (1)+(1)+(1)+(1)+(1)+(1)+(1)+(1)+(1)+(1);");
        fine("wears -1+-1+-1+-1+-1+-1+-1+-1+-1+-1;");
        fine("wears if just(1=1,not 1=1,not not 1=1)and not 1=1 and not 1=1 and not 1=1 and not 1=1 and not 1=1 then 1 else 1 end;");
    }

    void promise06FaultsOfLawsAndNames() {
        fault(4, 8, "wears 1;wears 2;");
        fault(4, 8, "aches 1;aches");
        fault(4, 7, "risk 1;risk x;");
        fault(4, 16, "wears 1; day 1; wears 2;");
        for (String name : new String[] {"size", "knee", "wear", "since", "by"}) {
            fault(5, 5, "risk " + name + ";");
            fault(5, 7, "risk 1+" + name + ";");
            fine("wears " + name + ";aches " + name + ";");
        }
        fault(5, 16, "wears size;risk size;");
        fine("risk day;wears size;");
    }

    void promise06FaultsOfClausesAndJust() {
        fine("day 1;".repeat(24));
        fault(6, 144, "day 1;".repeat(24) + "day 99;");
        fault(6, 146, "day 1;".repeat(24) + "  wears");
        fault(4, 146, "wears 1;" + "day 1;".repeat(23) + "wears");
        fault(1, 144, "day 1;".repeat(24) + "x");
        fault(1, 144, "day 1;".repeat(24) + ";");
        String six = "1=1" + ",1=1".repeat(5);
        fine("wears if just(" + six + ") then 1 else 2 end;");
        fault(7, 37, "wears if just(" + six + ",1=1) then 1 else 2 end;");
        fault(7, 37, "wears if just(" + six + ",;");
        fine("wears if just(" + six + ") and just(" + six + ") then 1 else 2 end;");
        fine("wears if just(just(" + six + ")," + "1=1,".repeat(4) + "just(" + six + ")) then 1 else 2 end;");
    }

    void promise06TheLatestTextIsTold() {
        fault(2, 4, "day 61;");
        same(0, tell("day 1;"));
        row("without", all(k.fault(0), k.fault(1)), 0, -1);
        fault(1, 0, "?");
        k.feed(0, 0, 0, 0, 0);
        row("not read yet", all(k.fault(0), k.fault(1)), 1, 0);
        k.back();
        row("no part of the image", all(k.fault(0), k.fault(1)), 1, 0);
    }

    void promise06FaultyTextsLeaveNothing() {
        String sum = "1+".repeat(140) + "1";
        for (int i = 0; i < 3; i++) fault(1, 288, "wears " + sum + " 2;");
        fault(2, 18, "wears 5;one 1 age 100;");
        fault(1, 25, "aches 5;one 1 age 10;day ;");
        same(0, tell("risk " + sum + "-2;"));
        people(2);
        k.swear(0, 1, 0, 9);
        yes(k.by(0));
        row("by the text that was read", all(k.ofOath(0, 7), k.ofOath(0, 8), k.of(0, 4)), 5, 0, 139);
        same(-1, k.played(0));
        same(2, k.about(0));
    }

    void promise07ATextRules() {
        people(2);
        k.swear(0, 1, 0, 9);
        no(k.by(0));
        yes(k.by(-1));
        same(0, tell("wears 42;"));
        same(1, tell("wears 7;"));
        same(-1, k.about(2));
        same(5, k.ofOath(0, 7));
        yes(k.by(0));
        same(0, k.about(2));
        same(42, k.ofOath(0, 7));
        no(k.by(2));
        no(k.by(-2));
        no(k.by(Integer.MAX_VALUE));
        same(0, k.about(2));
        yes(k.by(1));
        same(7, k.ofOath(0, 7));
        yes(k.by(-1));
        same(5, k.ofOath(0, 7));
        same(1, k.about(3));
    }

    void promise07WhatASumComesTo() {
        comesTo("7", "1+2*3");
        comesTo("9", "(1+2)*3");
        comesTo("5", "9-3-1");
        comesTo("3", "7/2");
        comesTo("-3", "-7/2");
        comesTo("-3", "7/-2");
        comesTo("3", "-7/-2");
        comesTo("0", "7/0");
        comesTo("0", "-7/(3-3)");
        comesTo("6", "8/4*3");
        comesTo("-5", "-5");
        comesTo("5", "--5");
        comesTo("-3", "-5+2");
        comesTo("-10", "-5*2");
        comesTo("-3", "1-2*2");
        comesTo("9999", "9999");
        comesTo("5", "0005");
    }

    void promise07AMillionAtMostAtEachStep() {
        comesTo("1000*1000", "9999*9999");
        comesTo("1000*1000-1", "9999*9999-1");
        comesTo("1000*1000", "1000*1000+1");
        comesTo("1000*1000-5", "1000*1000+5-5");
        comesTo("-1000*1000", "-9999*9999");
        comesTo("1-1000*1000", "-9999*9999+1");
        comesTo("5-1000*1000", "-1000*1000-5+5");
        comesTo("1000*1000", "9999*9999*9999");
        comesTo("1000*1000", "(9999*9999)*(9999*9999)");
        comesTo("-1000*1000", "(9999*9999)*-(9999*9999)");
        comesTo("200", "9999*9999/5000");
    }

    void promise07MarksInASum() {
        comesTo("1", "marks 1");
        comesTo("3", "marks 1*3");
        comesTo("0", "marks 0+marks 2+marks -1+marks 5+marks 9999+marks(3-9999*9999)");
        comesTo("1", "marks marks 1");
        comesTo("0", "marks marks marks 1*marks marks 0");
        comesTo("-1", "-marks 1");
        comesTo("1", "marks--1");
        comesTo("1", "marks(0+1)");
        comesTo("1", "marks if 1=1 then 1 else 0 end");
    }

    void promise07WhatIsAskedInALaw() {
        String[] so = {"1<2", "1<=1", "0<=1", "2>1", "2>=2", "3>=2", "1=1", "1#2", "not 1=2", "not not 1=1", "1=1 or 1=2",
            "1=2 or 1=1", "1=1 or 1=1", "1=1 and 2=2", "1=1 or 1=1 and 1=2", "1=2 and 1=1 or 1=1", "not 1=2 and 1=1",
            "just(1=1)", "just(1=2,1=1)", "just(1=2,2=1,3=1,4=1,5=1,1=1)", "just(1=1 or 2=2,1=2)",
            "just(just(1=1,1=1),1=1)", "not 1=1 or not 1=2", "1=1 and just(1=1)", "1=1 and just(1=2,1=1)", "just(1<2)",
            "just(1<=2)", "just(2>1)", "just(2>=1)", "just(1#2)", "just(not 1=2)", "just(1=1 and 2=2)", "just(1=1 or 2=2)"};
        for (String s : so) Suite.same(s, 1, lawOf("if " + s + " then 1 else 2 end"));
        String[] notSo = {"2<2", "3<2", "2<=1", "2>2", "1>2", "1>=2", "1=2", "1#1", "not 1=1", "1=2 or 2=1", "1=1 and 1=2",
            "1=2 and 1=1", "not 1=1 or 1=2", "not 1=2 and 1=2", "just(1=1,1=1)", "just(1=2)", "just(1=1,1=1,1=1)",
            "just(1=2,2=1,3=1,4=1,5=1,6=1)", "not just(1=1,1=2)", "just(1=1,1=2)and just(1=1,2=2)"};
        for (String s : notSo) Suite.same(s, 2, lawOf("if " + s + " then 1 else 2 end"));
        comesTo("9", "if 1=1 then 3 else 4 end*if 1=2 then 4 else 3 end");
        comesTo("8", "if if 1=1 then 5 else 6 end=5 then if 1=2 then 7 else 8 end else 9 end");
    }

    void promise07WhatTheNamesMean() {
        comesTo("2", "day");
        comesTo("1", "rain");
        comesTo("7", "tough");
        comesTo("55", "age");
        comesTo("1", "who");
        comesTo("8", "size");
        comesTo("1", "knee");
        comesTo("30", "wear");
        comesTo("2", "since");
        comesTo("0", "by");
    }

    void promise07LawsAreKeptInBounds() {
        people(2);
        k.swear(0, 1, 0, 9);
        rule("wears 100;aches 100;risk 9999+1;");
        row("most", all(k.ofOath(0, 7), k.ofOath(0, 8), k.of(0, 4)), 99, 99, 9999);
        rule("wears -1;aches -1;risk -1;");
        row("least", all(k.ofOath(0, 7), k.ofOath(0, 8), k.of(0, 4)), 0, 0, 0);
        rule("risk tough*1000+age*10+who+day+rain;");
        row("without", all(k.ofOath(0, 7), k.ofOath(0, 8)), 5, 0);
        row("risk", all(k.of(0, 4), k.of(1, 4)), 5200, 5211);
    }

    // ---- deeds ----

    void promise08Sworn() {
        same(-1, k.swear(0, 1, 0, 1));
        people(2);
        int[][] wrong = {{0, 0, 0, 1}, {-1, 0, 0, 1}, {0, 2, 0, 1}, {2, 0, 0, 1}, {0, -1, 0, 1}, {0, 1, -1, 1}, {0, 1, 2, 1},
            {0, 1, 0, 0}, {0, 1, 0, 10}, {Integer.MIN_VALUE, 1, 0, 1}};
        for (int[] w : wrong) same(-1, k.swear(w[0], w[1], w[2], w[3]));
        same(0, k.about(3));
        k.day(1);
        for (int i = 0; i < 14; i++) same(i, k.swear(i % 2, 1 - i % 2, i / 2 % 2, 1 + i % 9));
        same(-1, k.swear(0, 1, 0, 1));
        same(14, k.is(3));
        row("0", oath(0), 0, 1, 0, 1, 0, 0, 1, 5, 0);
        row("3", oath(3), 1, 0, 1, 4, 0, 0, 1, 5, 2);
        row("8", oath(8), 0, 1, 0, 9, 0, 0, 1, 5, 6);
        same(15, k.about(3));
        same(14, k.undo());
        same(13, k.swear(1, 0, 1, 9));
    }

    void promise08AReleasedOathIsOneOfTheFourteen() {
        people(2);
        for (int i = 0; i < 14; i++) k.swear(0, 1, 0, 1);
        yes(k.release(3));
        same(-1, k.swear(0, 1, 0, 1));
    }

    void promise09Broken() {
        people(2);
        no(k.breaks(0));
        k.swear(0, 1, 0, 5);
        k.swear(0, 1, 0, 5);
        no(k.breaks(-1));
        no(k.breaks(2));
        no(k.breaks(Integer.MAX_VALUE));
        yes(k.breaks(1));
        same(1, k.ofOath(1, 4));
        same(0, k.ofOath(0, 4));
        no(k.breaks(1));
        k.release(0);
        no(k.breaks(0));
        same(4, k.about(3));
        for (int i = 0; i < 4; i++) k.skate(1, 0);
        k.undo();
        same(5 + 2, k.about(3));
    }

    void promise10Released() {
        people(2);
        no(k.release(0));
        k.swear(0, 1, 0, 5);
        k.swear(0, 1, 0, 5);
        k.breaks(1);
        no(k.release(-1));
        no(k.release(2));
        no(k.release(Integer.MIN_VALUE));
        yes(k.release(0));
        yes(k.release(1));
        same(2, k.ofOath(0, 4));
        same(2, k.ofOath(1, 4));
        no(k.release(0));
        no(k.release(1));
        same(5, k.about(3));
        same(0, k.of(1, 2));
    }

    void promise11Kneels() {
        k.one(3, 0);
        k.one(0, 0);
        same(-1, k.kneel(2));
        same(-1, k.kneel(-1));
        same(-1, k.kneel(Integer.MAX_VALUE));
        k.swear(0, 1, 0, 5);
        k.swear(0, 1, 1, 5);
        k.swear(0, 1, 1, 5);
        k.swear(1, 0, 0, 5);
        k.breaks(1);
        k.release(2);
        same(2, k.kneel(1));
        row("wear", all(k.ofOath(0, 5), k.ofOath(1, 5), k.ofOath(2, 5), k.ofOath(3, 5)), 10, 10, 0, 0);
        same(1, k.kneel(0));
        same(7, k.ofOath(3, 5));
        for (int i = 0; i < 8; i++) same(2, k.kneel(1));
        k.swear(0, 1, 1, 5);
        same(1, k.kneel(1));
        row("wear", all(k.ofOath(0, 5), k.ofOath(1, 5), k.ofOath(4, 5)), 99, 99, 10);
        same(18, k.about(3));
    }

    void promise11AKneelingIsWorkedOutAsAheadOfIt() {
        people(2);
        k.swear(0, 1, 0, 1);
        k.swear(0, 1, 1, 1);
        rule("wears 50*marks who;");
        same(0, k.kneel(1));
        row("both by two marks", all(k.ofOath(0, 5), k.ofOath(1, 5)), 99, 99);
    }

    void promise12Skates() {
        people(2);
        k.swear(0, 1, 0, 5);
        k.swear(0, 1, 1, 5);
        k.swear(1, 0, 0, 5);
        k.swear(0, 1, 0, 5);
        k.release(3);
        int[][] wrong = {{2, 0}, {-1, 0}, {1, -1}, {1, 2}, {Integer.MIN_VALUE, 0}, {0, Integer.MAX_VALUE}};
        for (int[] w : wrong) same(-1, k.skate(w[0], w[1]));
        same(5, k.about(3));
        same(2, k.skate(1, 0));
        row("wear", all(k.ofOath(0, 5), k.ofOath(1, 5), k.ofOath(2, 5), k.ofOath(3, 5)), 30, 0, 0, 30);
        same(2, k.skate(1, 1));
        same(2, k.skate(1, 0));
        same(2, k.skate(1, 0));
        same(90, k.ofOath(0, 5));
        same(1, k.skate(1, 0));
        row("wear", all(k.ofOath(0, 5), k.ofOath(1, 5)), 99, 30);
        same(10, k.about(3));
    }

    void promise13StruckOut() {
        threeInARing();
        same(3, k.strike(7));
        row("sizes", all(k.ofOath(0, 3), k.ofOath(1, 3), k.ofOath(2, 3), k.ofOath(3, 3)), 2, 1, 0, 9);
        row("states", all(k.ofOath(0, 4), k.ofOath(1, 4), k.ofOath(2, 4), k.ofOath(3, 4)), 0, 0, 2, 0);
        same(5, k.about(3));
        same(-1, k.strike(7));
        same(4, k.undo());
        same(3, k.ofOath(2, 3));
        same(3, k.strike(7));
    }

    void promise13AllOfOneSizeAreReleased() {
        people(2);
        k.swear(0, 1, 1, 9);
        k.swear(1, 0, 1, 9);
        same(9, k.strike(3));
        row("states", all(k.ofOath(0, 4), k.ofOath(1, 4), k.ofOath(0, 3), k.ofOath(1, 3)), 2, 2, 0, 0);
    }

    void promise13WhatIsNoRing() {
        threeInARing();
        for (int bits : new int[] {0, -1, 1, 3, 5, 6, 9, 15, 16, 23, 1 << 14, 1 << 30, Integer.MIN_VALUE, Integer.MAX_VALUE}) {
            same(-1, k.strike(bits));
        }
        same(4, k.swear(1, 0, 1, 1));
        same(5, k.swear(0, 1, 1, 1));
        same(6, k.swear(2, 3, 1, 1));
        same(7, k.swear(3, 2, 1, 1));
        same(-1, k.strike(17 + 192));
        same(-1, k.strike(17 + 32));
        same(-1, k.strike(7 + 192));
        same(8, k.about(3));
        k.breaks(7);
        same(-1, k.strike(192));
        k.undo();
        k.release(7);
        same(-1, k.strike(192));
        k.undo();
        for (int i = 0; i < 4; i++) k.skate(2, 1);
        same(-1, k.strike(192));
        k.undo();
        same(1, k.strike(192));
        same(1, k.strike(16 + 32));
    }

    void promise13NoOneIsInItTwice() {
        people(3);
        k.swear(0, 1, 1, 2);
        k.swear(1, 0, 1, 3);
        k.swear(0, 2, 1, 4);
        k.swear(2, 0, 1, 5);
        same(-1, k.strike(15));
        same(2, k.strike(3));
        same(4, k.strike(12));
        row("sizes", all(k.ofOath(0, 3), k.ofOath(1, 3), k.ofOath(2, 3), k.ofOath(3, 3)), 0, 1, 0, 1);
    }

    void promise13SixInARing() {
        people(6);
        for (int i = 0; i < 6; i++) k.swear(i, (i + 1) % 6, 1, 9 - i);
        same(4, k.strike(63));
        row("sizes", all(k.ofOath(0, 3), k.ofOath(4, 3), k.ofOath(5, 3)), 5, 1, 0);
    }

    void promise14DaysPass() {
        for (int n : new int[] {0, -1, 61, Integer.MIN_VALUE, Integer.MAX_VALUE}) same(-1, k.day(n));
        same(7, k.day(1));
        same(1, k.day(1));
        row("now", all(k.is(0), k.is(1), k.is(2)), 2, 1, 28089);
        same(2, k.about(3));
        k.undo();
        k.undo();
        same(1, k.day(2));
        for (int i = 0; i < 166; i++) k.day(60);
        same(9962, k.is(0));
        same(-1, k.day(38));
        same(9962, k.is(0));
        int rain = k.day(37);
        same(9999, k.is(0));
        same(rain, k.is(1));
        int x = k.is(2);
        same(-1, k.day(1));
        row("no day more", all(k.is(0), k.is(1), k.is(2)), 9999, rain, x);
        same(30, k.about(3));
    }

    void promise14AchesAreWrittenByPeople() {
        people(3);
        k.swear(1, 0, 0, 9);
        k.swear(0, 2, 1, 9);
        k.swear(0, 2, 0, 5);
        k.swear(0, 1, 0, 9);
        for (int i = 0; i < 3; i++) k.breaks(i);
        same(7, k.day(1));
        same(0, k.book(-1, 0));
        same(1, k.day(1));
        same(2, k.book(-1, 0));
        row("the first", entry(0), 1, 0, 6);
        row("the second", entry(1), 1, 2, 6 + 3);
    }

    void promise15PlayedByAText() {
        same(-2, k.played(0));
        same(-2, k.played(-1));
        String text = "one 1 age 2;wears 3;one 9 age 99;swear 0 to 1 right 9;swear 1 to 0 left 1;break 0;kneel 1;skate 0;skate 1;"
            + "day 2;aches 1;release 1;";
        same(0, tell(text));
        same(-2, k.played(1));
        same(-2, k.played(Integer.MIN_VALUE));
        same(-1, k.played(0));
        row("people", all(k.about(0), k.of(0, 0), k.of(0, 1), k.of(1, 0), k.of(1, 1)), 2, 1, 2, 9, 99);
        row("0", oath(0), 0, 1, 1, 9, 1, 1, 0, 1, 0);
        row("1", oath(1), 1, 0, 0, 1, 2, 30, 0, 9, 0);
        row("as by hand", all(k.is(0), k.is(1), k.about(3), k.about(2)), 2, 1, 9, -1);
        row("aches", entry(0), 1, 1, 6);
    }

    void promise15AClauseThatCantBeEndsIt() {
        String[] texts = {"break 0;", "release 0;", "kneel 0;", "skate 0;", "swear 0 to 1 left 1;"};
        for (String t : texts) {
            KneeOaths o = new KneeOaths();
            Words.tell(o, "aches 1;" + t + "day 1;");
            same(1, o.played(0));
            row(t, all(o.is(0), o.about(3)), 0, 0);
        }
        tell("one 1 age 1;one 1 age 1;swear 0 to 0 left 1;");
        tell("one 1 age 1;".repeat(5));
        tell("wears 1;swear 0 to 1 left 1;risk 1;release 0;release 0;day 5;");
        same(2, k.played(0));
        same(2, k.about(0));
        same(4, k.played(1));
        same(6, k.about(0));
        same(4, k.played(2));
        row("what was done stays", all(k.is(3), k.is(0), k.ofOath(0, 4), k.about(3)), 1, 0, 2, 2);
    }

    void promise15DaysThatCanPassDo() {
        for (int i = 0; i < 166; i++) k.day(60);
        k.day(36);
        tell("wears 1;day 5;day 1;");
        tell("day 3;one 1 age 1;");
        same(1, k.played(0));
        same(9999, k.is(0));
        same(0, k.played(1));
        same(0, k.about(0));
    }

    void promise16YearsByASeed() {
        same(-1, k.years(0, 1));
        people(2);
        int[][] wrong = {{-1, 1}, {10000, 1}, {0, 0}, {0, 41}, {Integer.MIN_VALUE, 1}, {0, Integer.MAX_VALUE}};
        for (int[] w : wrong) same(-1, k.years(w[0], w[1]));
        same(137, k.is(2));
        same(0, k.about(3));
        same(0, k.years(0, 2));
        row("x", all(k.is(2), k.is(3), k.about(3)), 28089, 0, 1);
        same(0, k.undo());
        same(137, k.is(2));
        k.years(9999, 1);
        same(1, k.about(3));
        k.years(9999, 40);
        same(2, k.about(3));
    }

    /** The first draw is the seed's own X, so that one draw can be had of each kind. */
    private int seedOf(int kind, int by, int rest) {
        for (int seed = 0; seed < 10000; seed++) {
            int x = seed * 2 + 137;
            if (x % 7 == kind && x % by == rest) return seed;
        }
        throw new AssertionError();
    }

    void promise16EachKindOfDraw() {
        people(5);
        int seed = 0;
        int x = 137;
        while (x % 7 != 0 || x % 5 == x / 7 % 5) x = 2 * ++seed + 137;
        same(0, k.years(seed, 1));
        row("sworn", oath(0), x % 5, x / 7 % 5, x % 2, 1 + x % 9, 0, 0, 0, 5, 0);
        same((x * 367 + 241) % 30449, k.is(2));
        k.years(seedOf(1, 2, 1), 1);
        same(1, k.ofOath(0, 4));
        k.years(seedOf(2, 5, 1), 1);
        same(1, k.ofOath(0, 4));
        k.years(seedOf(2, 5, 0), 1);
        same(2, k.ofOath(0, 4));
        k.undo();
        int on = k.ofOath(0, 1);
        k.years(seedOf(3, 5, (on + 1) % 5), 1);
        same(0, k.ofOath(0, 5));
        k.years(seedOf(3, 5, on), 1);
        same(5, k.ofOath(0, 5));
        same(0, k.is(0));
        for (int kind = 5; kind < 7; kind++) {
            int s = seedOf(kind, 7, kind);
            int drawn = ((s * 2 + 137) * 367 + 241) % 30449;
            same(kind - 4, k.years(s, 1));
            row("a day", all(k.is(1), k.is(2)), drawn % 10, (drawn * 367 + 241) % 30449);
        }
    }

    void promise16OneIsNotSwornToItself() {
        people(2);
        int x = ((seedOf(0, 7, 0) * 2 + 137) * 367 + 241) % 30449;
        same(0, k.years(seedOf(0, 7, 0), 1));
        row("nothing but the draw", all(k.is(3), k.is(2), k.about(3)), 0, x, 1);
    }

    void promise16WhatThereAreNoneOfIsnt() {
        people(1);
        for (int kind = 0; kind < 3; kind++) same(0, k.years(seedOf(kind, 5, 0), 1));
        row("steps all the same", all(k.about(3), k.is(3)), 3, 0);
    }

    void promise16SkatingInYears() {
        people(3);
        k.swear(1, 0, 1, 5);
        int worn = 0;
        for (int s = 0; s < 100; s++) {
            int x = s * 2 + 137;
            if (x % 7 != 4) continue;
            boolean skates = x % 3 == 0 && x % 2 == 1;
            k.years(s, 1);
            same(skates ? 30 : 0, k.ofOath(0, 5));
            worn += skates ? 1 : 0;
            k.undo();
        }
        yes(worn > 0);
    }

    void promise16YearsAtTheLastDay() {
        people(2);
        for (int i = 0; i < 166; i++) k.day(60);
        k.day(39);
        int x = k.is(2);
        same(9999, k.years(seedOf(5, 7, 5), 1));
        same(((137 + 2 * seedOf(5, 7, 5)) * 367 + 241) % 30449, k.is(2));
        k.undo();
        same(x, k.is(2));
    }

    void promise17TheLatestThirtyStepsAreTakenBack() {
        same(-1, k.undo());
        people(3);
        same(-1, k.undo());
        for (int i = 0; i < 14; i++) k.swear(0, 1, 0, 1 + i % 9);
        k.day(16);
        same(30, k.about(3));
        k.breaks(0);
        same(30, k.about(3));
        same(29, k.undo());
        same(0, k.ofOath(0, 4));
        for (int i = 28; i >= 13; i--) same(i, k.undo());
        row("as ahead of the days", all(k.is(0), k.is(1), k.is(2), k.is(3)), 0, 0, 137, 14);
        for (int i = 12; i >= 0; i--) same(i, k.undo());
        same(1, k.is(3));
        same(-1, k.undo());
        same(1, k.is(3));
        same(3, k.about(0));
    }

    void promise17EachKindOfStepIsTakenBack() {
        threeInARing();
        k.breaks(3);
        same(7, k.day(1));
        k.day(1);
        k.kneel(0);
        k.skate(0, 0);
        k.strike(7);
        k.release(3);
        k.years(77, 40);
        same(4, k.one(1, 1));
        same(11, k.undo());
        row("years", all(k.is(0), k.is(2), k.is(3)), 2, 28089, 4);
        same(10, k.undo());
        same(1, k.ofOath(3, 4));
        same(9, k.undo());
        row("struck out", all(k.ofOath(0, 3), k.ofOath(1, 3), k.ofOath(2, 3), k.ofOath(2, 4)), 5, 4, 3, 0);
        same(35, k.ofOath(3, 5));
        same(8, k.undo());
        same(5, k.ofOath(3, 5));
        same(7, k.undo());
        same(0, k.ofOath(3, 5));
        same(1, k.book(-1, 0));
        same(6, k.undo());
        row("the day", all(k.is(0), k.is(1), k.is(2), k.book(-1, 0)), 1, 7, 20071, 0);
        same(5, k.undo());
        same(4, k.undo());
        same(0, k.ofOath(3, 4));
        same(3, k.undo());
        same(3, k.is(3));
        same(5, k.about(0));
    }

    void promise17TheBookIsAsAheadOfIt() {
        people(2);
        k.swear(0, 1, 0, 1);
        k.breaks(0);
        rule("aches 1;");
        k.day(30);
        k.day(1);
        row("the eldest gone", entry(0), 1, 1, 1);
        k.undo();
        row("the eldest again", entry(0), 0, 1, 1);
        same(30, k.book(-1, 0));
    }

    // ---- what is told of people, oaths, the book ----

    void promise18OfOne() {
        same(-1000, k.of(0, 0));
        threeInARing();
        for (int what : new int[] {-1, 6, Integer.MAX_VALUE}) same(-1000, k.of(0, what));
        for (int one : new int[] {-1, 4, Integer.MIN_VALUE}) same(-1000, k.of(one, 0));
        k.breaks(3);
        k.day(1);
        int[] got = new int[6];
        for (int i = 0; i < 6; i++) got[i] = k.of(0, i);
        row("0", got, 5, 20, 2, 6, 15, 4 - 5);
        for (int i = 0; i < 6; i++) got[i] = k.of(2, i);
        row("2", got, 5, 22, 1, 0, 5, 3 - 4);
        for (int i = 0; i < 6; i++) got[i] = k.of(3, i);
        row("3", got, 5, 23, 0, 0, 0, 0);
        for (int i = 0; i < 4; i++) k.skate(0, 0);
        row("worn", all(k.of(0, 2), k.of(0, 3), k.of(0, 4)), 1, 0, 5);
        for (int i = 0; i < 4; i++) k.skate(0, 1);
        row("nets are of kept ones, worn or not", all(k.of(0, 2), k.of(0, 5)), 0, -1);
        k.breaks(1);
        row("not of broken ones", all(k.of(0, 5), k.of(2, 5)), -5, 3);
        k.undo();
        k.release(1);
        row("nor of released ones", all(k.of(0, 5), k.of(2, 5)), -5, 3);
    }

    void promise18AcheIsOfTheBrokenOnes() {
        people(2);
        for (int i = 0; i < 4; i++) k.swear(0, 1, 0, 9);
        k.day(1);
        same(0, k.of(1, 3));
        k.breaks(0);
        k.breaks(1);
        same(12, k.of(1, 3));
        k.release(1);
        same(6, k.of(1, 3));
        rule("aches 99;");
        same(99, k.of(1, 3));
        k.breaks(2);
        k.breaks(3);
        same(297, k.of(1, 3));
        same(0, k.of(0, 3));
    }

    void promise19OfAnOath() {
        same(-1, k.ofOath(0, 0));
        k.one(4, 30);
        k.one(9, 60);
        k.day(1);
        k.swear(0, 1, 1, 5);
        k.swear(1, 0, 0, 8);
        row("0", oath(0), 0, 1, 1, 5, 0, 0, 1, 1, 3);
        row("1", oath(1), 1, 0, 0, 8, 0, 0, 1, 6, 5);
        for (int what : new int[] {-1, 9, Integer.MIN_VALUE}) same(-1, k.ofOath(0, what));
        for (int o : new int[] {-1, 2, 14, Integer.MAX_VALUE}) same(-1, k.ofOath(o, 0));
        k.kneel(0);
        k.breaks(1);
        k.day(1);
        row("1", oath(1), 1, 0, 0, 8, 1, 6, 1, 6, 0);
        k.release(1);
        rule("wears since+10;aches wear+by;");
        row("1", oath(1), 1, 0, 0, 8, 2, 6, 1, 11, 7);
    }

    void promise20Is() {
        row("new", all(k.is(0), k.is(1), k.is(2), k.is(3)), 0, 0, 137, 0);
        for (int what : new int[] {-1, 4, Integer.MAX_VALUE, Integer.MIN_VALUE}) same(-2, k.is(what));
        people(2);
        k.swear(0, 1, 0, 1);
        k.release(0);
        k.day(2);
        row("then", all(k.is(0), k.is(1), k.is(2), k.is(3)), 2, 1, 28089, 1);
    }

    void promise21TheBookHasTheLatestThirty() {
        same(0, k.book(-1, 0));
        same(-2, k.book(0, 0));
        people(3);
        k.swear(0, 1, 0, 1);
        k.swear(0, 2, 0, 1);
        k.breaks(0);
        k.breaks(1);
        rule("aches 10*who+since;");
        k.day(1);
        same(2, k.book(-1, 5));
        row("0", entry(0), 0, 1, 10);
        row("1", entry(1), 0, 2, 20);
        same(-2, k.book(2, 0));
        same(-2, k.book(-2, 0));
        same(-2, k.book(0, 3));
        same(-2, k.book(0, -1));
        same(-2, k.book(Integer.MAX_VALUE, 0));
        k.day(14);
        same(30, k.book(-1, 0));
        row("0", entry(0), 0, 1, 10);
        k.day(2);
        same(30, k.book(-1, 0));
        row("0", entry(0), 2, 1, 12);
        row("29", entry(29), 16, 2, 36);
        same(-2, k.book(30, 0));
    }

    // ---- what comes ----

    void promise22Foretold() {
        people(2);
        k.swear(0, 1, 0, 9);
        k.breaks(0);
        int[] rain = {7, 1, 9};
        int[] ache = {0, 6, 6};
        for (int n = 1; n <= 3; n++) {
            same(rain[n - 1], k.foretold(n, -1));
            same(ache[n - 1], k.foretold(n, 1));
            same(0, k.foretold(n, 0));
        }
        int far = k.foretold(60, -1), much = k.foretold(60, 1);
        for (int n : new int[] {0, 61, -1, Integer.MAX_VALUE}) same(-1, k.foretold(n, 1));
        for (int one : new int[] {2, -2, Integer.MIN_VALUE}) same(-1, k.foretold(1, one));
        row("nothing is done", all(k.is(0), k.is(1), k.is(2), k.book(-1, 0), k.about(3)), 0, 0, 137, 0, 2);
        int sum = 0;
        for (int i = 0; i < 60; i++) {
            sum += k.of(1, 3);
            k.day(1);
        }
        same(far, k.is(1));
        same(much, sum);
    }

    void promise22OnlyDaysThatCanPass() {
        people(2);
        k.swear(0, 1, 0, 9);
        k.breaks(0);
        rule("aches 2;");
        for (int i = 0; i < 166; i++) k.day(60);
        k.day(36);
        same(6, k.foretold(60, 1));
        same(6, k.foretold(3, 1));
        same(4, k.foretold(2, 1));
        int rain = k.foretold(3, -1);
        same(rain, k.foretold(60, -1));
        k.day(3);
        same(0, k.foretold(1, 1));
        same(rain, k.foretold(1, -1));
    }

    void promise23FirstAche() {
        same(-1, k.firstAche(0));
        people(2);
        k.swear(0, 1, 0, 9);
        same(-1, k.firstAche(1));
        k.breaks(0);
        same(2, k.firstAche(1));
        same(-1, k.firstAche(0));
        same(-1, k.firstAche(2));
        same(-1, k.firstAche(-1));
        rule("aches day-58;");
        same(60, k.firstAche(1));
        rule("aches day-59;");
        same(-1, k.firstAche(1));
        k.day(60);
        same(1, k.firstAche(1));
        rule("aches day/9999;");
        for (int i = 0; i < 165; i++) k.day(60);
        k.day(20);
        same(-1, k.firstAche(1));
        rule("aches day/9998;");
        same(19, k.firstAche(1));
        k.day(19);
        same(-1, k.firstAche(1));
    }

    void promise24Fades() {
        same(-1, k.fades(0));
        k.one(0, 0);
        k.one(9, 0);
        k.swear(0, 1, 0, 1);
        k.swear(1, 0, 0, 1);
        k.swear(1, 0, 1, 1);
        same(-1, k.fades(0));
        same(10, k.fades(1));
        k.breaks(1);
        same(10, k.fades(1));
        k.kneel(0);
        same(9, k.fades(1));
        same(-1, k.fades(3));
        same(-1, k.fades(-1));
        same(-1, k.fades(Integer.MAX_VALUE));
        for (int i = 0; i < 3; i++) k.skate(0, 1);
        same(0, k.fades(2));
        k.release(1);
        same(-1, k.fades(1));
        k.release(2);
        same(-1, k.fades(2));
        k.skate(1, 0);
        same(-1, k.fades(0));
        k.skate(1, 0);
        same(39, k.fades(0));
        same(60, k.ofOath(0, 5));
        same(0, k.is(0));
    }

    void promise24ItKneelsAheadOfEachDay() {
        people(2);
        k.swear(0, 1, 0, 1);
        k.swear(0, 1, 1, 1);
        rule("wears rain*10;");
        // rain 0, 7, 1, 9: 0, 70, 80, 99
        same(4, k.fades(0));
        rule("wears if day=0 then 99 else 0 end;");
        same(1, k.fades(0));
        rule("wears 2;");
        same(50, k.fades(0));
        k.skate(1, 1);
        rule("wears if marks who>1 then 23 else 1 end;");
        // 23, 46, 69 with both; the other is at 99 then, and 30 more are needed
        same(3, k.fades(1));
        same(33, k.fades(0));
    }

    void promise24SixtyDaysAtMost() {
        people(2);
        k.swear(0, 1, 0, 1);
        rule("wears if day=59 then 99 else 0 end;");
        same(60, k.fades(0));
        rule("wears if day=60 then 99 else 0 end;");
        same(-1, k.fades(0));
        rule("wears 10;");
        for (int i = 0; i < 166; i++) k.day(60);
        k.day(29);
        same(10, k.fades(0));
        k.day(1);
        same(-1, k.fades(0));
    }

    // ---- breaches ----

    void promise25Felt() {
        same(-2, k.felt(0, 0, 0));
        people(2);
        int[][] wrong = {{2, 0, 0}, {-2, 0, 0}, {0, -1, 0}, {0, 10, 0}, {0, 0, -1}, {0, 0, 1000}, {Integer.MAX_VALUE, 0, 0}};
        for (int[] w : wrong) same(-2, k.felt(w[0], w[1], w[2]));
        same(0, k.about(4));
        same(0, k.felt(-1, 5, 5));
        same(1, k.felt(0, 0, 0));
        same(2, k.felt(1, 9, 999));
        for (int i = 3; i <= 6; i++) same(i, k.felt(0, 1, 1));
        same(-2, k.felt(0, 1, 1));
        same(6, k.about(4));
        same(0, k.felt(-1, -1, 5000));
        same(0, k.about(4));
        same(0, k.about(3));
        same(1, k.felt(0, 1, 1));
    }

    /** On 0 are oaths of the sizes 2, 4, 6, 8 (numbers 0, 2, 3, 4), and of 9 (1) on another. */
    private void fourOnOne() {
        people(3);
        k.swear(1, 0, 0, 2);
        k.swear(0, 1, 0, 9);
        k.swear(1, 0, 1, 4);
        k.swear(2, 0, 0, 6);
        k.swear(1, 0, 1, 8);
    }

    void promise26Breaches() {
        same(-1, k.breaches(0, 0));
        fourOnOne();
        row("all sets", all(k.breaches(0, 0), k.breaches(0, 1), k.breaches(0, 2)), 16, 0, 0);
        k.breaks(0);
        same(16, k.breaches(0, 0));
        // at RAIN 5 they ache 1, 2, 3, 4
        k.felt(0, 5, 5);
        row("1 and 4, or 2 and 3", all(k.breaches(0, 0), k.breaches(0, 1), k.breaches(0, 2)), 2, 0, 0);
        // at RAIN 2 they ache 0, 0, 1, 1
        k.felt(0, 2, 1);
        same(2, k.breaches(0, 0));
        // at RAIN 3 they ache 0, 1, 1, 2
        k.felt(0, 3, 2);
        same(2, k.breaches(0, 0));
        // at RAIN 9 they ache 1, 3, 5, 7: 8 both
        k.felt(0, 9, 8);
        same(2, k.breaches(0, 0));
        same(2, k.breaches(1, 0));
        same(1, k.breaches(2, 0));
        // at RAIN 4 they ache 0, 1, 2, 3: 3 both
        k.felt(0, 4, 3);
        same(2, k.breaches(0, 0));
        k.felt(0, 1, 1);
        row("none", all(k.breaches(0, 0), k.breaches(0, 1), k.breaches(0, 2)), 0, 29, 29);
        k.felt(-1, 0, 0);
        k.felt(0, 5, 9);
        row("1 is kept", all(k.breaches(0, 0), k.breaches(0, 1), k.breaches(0, 2)), 1, 28, 1);
        row("others", all(k.breaches(0, -1), k.breaches(0, 3), k.breaches(3, 0), k.breaches(-1, 0)), -1, -1, -1, -1);
        k.release(4);
        row("of its legible ones", all(k.breaches(0, 0), k.breaches(0, 1), k.breaches(0, 2)), 0, 13, 13);
    }

    void promise26FourteenMaybeBroken() {
        people(2);
        for (int i = 0; i < 14; i++) k.swear(0, 1, 0, 9);
        same(16384, k.breaches(1, 0));
        rule("aches 99;");
        k.felt(1, 0, 990);
        same(1001, k.breaches(1, 0));
        same(715, k.odds(3, false) * 143);
    }

    void promise26AllElseIsAsNow() {
        people(2);
        k.swear(0, 1, 0, 9);
        rule("aches day*10+rain;");
        k.felt(1, 4, 4);
        same(1, k.breaches(1, 0));
        same(1, k.breaches(1, 1));
        k.day(1);
        same(0, k.breaches(1, 0));
        k.felt(-1, 0, 0);
        k.felt(1, 4, 14);
        same(1, k.breaches(1, 0));
        same(7, k.is(1));
    }

    void promise27Odds() {
        same(-1, k.odds(0, false));
        fourOnOne();
        row("half", all(k.odds(0, false), k.odds(0, true)), 1, 2);
        // at RAIN 5 they ache 1, 2, 3, 4: {4}, {1, 3}
        k.felt(0, 5, 4);
        row("half", all(k.odds(4, false), k.odds(4, true), k.odds(0, false), k.odds(0, true)), 1, 2, 1, 2);
        row("never", all(k.odds(2, false), k.odds(2, true)), 0, 1);
        k.felt(-1, 0, 0);
        // at RAIN 2 they ache 0, 0, 1, 1: {3} or {4}, with any of 0, 2: 8; at RAIN 3 0, 1, 1, 2
        k.felt(0, 3, 2);
        // {4}, {2, 3}, each with or without 0
        row("half", all(k.odds(0, false), k.odds(0, true), k.odds(2, false), k.odds(2, true)), 1, 2, 1, 2);
        k.felt(-1, 0, 0);
        // at RAIN 4 they ache 0, 1, 2, 3: {4}, {2, 3}, with or without 0; 4: {2, 4}
        k.felt(0, 5, 7);
        // {3, 4}, {1, 2, 4} by aches: oath 4 is in both
        row("sure", all(k.odds(4, false), k.odds(4, true)), 1, 1);
        k.felt(0, 5, 6);
        row("no sets", all(k.odds(4, false), k.odds(4, true)), 0, 1);
        row("one that felt nothing", all(k.odds(1, false), k.odds(1, true)), 1, 2);
        row("others", all(k.odds(5, false), k.odds(-1, true), k.odds(Integer.MAX_VALUE, true)), -1, -1, -1);
        k.release(0);
        same(-1, k.odds(0, false));
        for (int i = 0; i < 4; i++) k.skate(0, 1);
        same(-1, k.odds(2, true));
    }

    void promise27OddsInLowestTerms() {
        people(2);
        for (int i = 0; i < 4; i++) k.swear(0, 1, 0, 9);
        k.swear(0, 1, 0, 1);
        rule("aches size;");
        k.felt(1, 0, 27);
        row("3 of 4", all(k.odds(0, false), k.odds(0, true), k.odds(4, false), k.odds(4, true)), 3, 4, 0, 1);
        k.felt(-1, 0, 0);
        k.felt(1, 0, 9);
        row("1 of 4", all(k.odds(3, false), k.odds(3, true)), 1, 4);
    }

    void promise28NextAsked() {
        same(-1, k.nextAsked(0));
        fourOnOne();
        same(0, k.nextAsked(0));
        same(1, k.nextAsked(1));
        same(-1, k.nextAsked(2));
        same(-1, k.nextAsked(3));
        same(-1, k.nextAsked(-1));
        // at RAIN 5 they ache 1, 2, 3, 4: {4}, {1, 3}; 2 is in none
        k.felt(0, 5, 4);
        same(0, k.nextAsked(0));
        k.felt(-1, 0, 0);
        // {3, 4}, {1, 2, 4}: 4 is in all
        k.felt(0, 5, 7);
        same(0, k.nextAsked(0));
        k.felt(0, 2, 2);
        // at RAIN 2 they ache 0, 0, 1, 1: {3, 4} alone
        same(-1, k.nextAsked(0));
        k.felt(0, 1, 9);
        same(-1, k.nextAsked(0));
    }

    void promise28AsNearToHalfAsCanBe() {
        people(2);
        for (int size : new int[] {1, 1, 2, 3}) k.swear(0, 1, 0, size);
        rule("aches size;");
        k.felt(1, 0, 3);
        // {3}, {0, 2}, {1, 2}: 2 is in two of three, 0, 1 and 3 in one of three
        same(0, k.nextAsked(1));
        k.felt(-1, 0, 0);
        k.felt(1, 0, 4);
        // {0, 3}, {1, 3}, {0, 1, 2}: each of 0, 1, 3 in two, 2 in one
        same(0, k.nextAsked(1));
        k.swear(0, 1, 0, 4);
        // {4} too: 0, 1, 3 are in two of four
        same(0, k.nextAsked(1));
        k.felt(-1, 0, 0);
        k.felt(1, 0, 5);
        // {0, 4}, {1, 4}, {2, 3}, {0, 1, 3}: 0, 1, 3 and 4 in two of four, 2 in one
        same(0, k.nextAsked(1));
        k.release(0);
        // {1, 4}, {2, 3}: all in one of two
        same(1, k.nextAsked(1));
        k.felt(-1, 0, 0);
        k.felt(1, 0, 6);
        k.undo();
        // {0, 2, 3}, {1, 2, 3}, {2, 4}, {0, 1, 4}: 0, 1, 3 and 4 in two, 2 in three
        same(0, k.nextAsked(1));
        k.swear(0, 1, 0, 6);
        // {5} too: 2 in three of five, 0 in two of five, as near
        same(0, k.nextAsked(1));
    }

    void promise28TheLowestIsNotAlwaysNearest() {
        people(2);
        for (int size : new int[] {5, 2, 2, 2, 3, 1}) k.swear(0, 1, 0, size);
        rule("aches size;");
        k.felt(1, 0, 5);
        // {0}, {1, 4}, {2, 4}, {3, 4}, {1, 2, 5}, {1, 3, 5}, {2, 3, 5}: seven; 0 in one, 1, 2, 3 in three, 4 and 5 in three
        same(7, k.breaches(1, 0));
        same(1, k.nextAsked(1));
    }

    // ---- choices ----

    void promise29Clashes() {
        people(2);
        same(-2, k.clash(0, 1));
        for (int i = 0; i < 3; i++) k.swear(0, 1, 0, 1);
        int[][] wrong = {{0, 0}, {0, 3}, {3, 0}, {0, -1}, {-2, 0}, {Integer.MAX_VALUE, 0}};
        for (int[] w : wrong) same(-2, k.clash(w[0], w[1]));
        same(0, k.about(5));
        for (int i = 1; i <= 8; i++) same(i, k.clash(i % 2, 2));
        same(-2, k.clash(0, 1));
        same(8, k.about(5));
        same(3, k.about(3));
        same(0, k.clash(-1, 99));
        same(0, k.about(5));
        same(1, k.clash(2, 0));
    }

    void promise30LeastReleased() {
        people(2);
        same(0, k.leastReleased());
        for (int i = 0; i < 6; i++) k.swear(0, 1, 0, 1);
        k.clash(4, 5);
        same(16, k.leastReleased());
        k.clash(0, 3);
        k.clash(1, 3);
        k.clash(3, 2);
        same(16 + 8, k.leastReleased());
        k.breaks(4);
        same(8, k.leastReleased());
        k.release(3);
        same(0, k.leastReleased());
        k.undo();
        k.undo();
        same(24, k.leastReleased());
        k.undo();
        same(5, k.is(3));
        same(8, k.leastReleased());
        same(4, k.about(5));
        k.swear(1, 0, 0, 1);
        same(24, k.leastReleased());
        k.clash(0, 1);
        same(16 + 8 + 1, k.leastReleased());
        for (int i = 0; i < 4; i++) k.skate(1, 0);
        same(16 + 8 + 1, k.leastReleased());
    }

    void promise30SetsOfAllFourteen() {
        people(2);
        for (int i = 0; i < 14; i++) k.swear(0, 1, 0, 1);
        for (int i = 0; i < 7; i++) k.clash(2 * i, 2 * i + 1);
        same(0b01010101010101, k.leastReleased());
        k.clash(12, 1);
        same(0b01010101010101, k.leastReleased());
        k.clash(-1, 0);
        for (int i = 0; i < 7; i++) k.clash(2 * i, 2 * i + 1);
        k.clash(1, 3);
        same(0b01010101010110, k.leastReleased());
    }

    void promise31Forged() {
        same(-1000, k.forged(0, 0, 0));
        fourOnOne();
        row("left and right", all(k.forged(0, 0, 5), k.forged(0, 1, 0), k.forged(2, 0, 99), k.forged(1, 0, 1)), 3, -2, 99, 0);
        int[][] wrong = {{3, 0, 0}, {-1, 0, 0}, {0, 2, 0}, {0, -1, 0}, {0, 0, -1}, {0, 0, 100}};
        for (int[] w : wrong) same(-1000, k.forged(w[0], w[1], w[2]));
        k.breaks(0);
        same(3, k.forged(0, 0, 5));
        k.release(0);
        same(4, k.forged(0, 0, 5));
        for (int i = 0; i < 4; i++) k.skate(0, 0);
        same(5, k.forged(0, 0, 5));
    }

    void promise32Words() {
        int[][] wrong = {{0, 5}, {100, 5}, {-2, 5}, {1, -1}, {1, 1000}, {Integer.MIN_VALUE, 0}};
        for (int[] w : wrong) same(-2, k.word(w[0], w[1]));
        same(0, k.about(6));
        same(1, k.word(1, 0));
        same(2, k.word(99, 999));
        for (int i = 3; i <= 8; i++) same(i, k.word(5, 5));
        same(-2, k.word(5, 5));
        same(8, k.about(6));
        same(0, k.word(-1, 5));
        same(0, k.about(6));
        same(1, k.word(5, 5));
    }

    void promise33InTime() {
        row("none", all(k.inTime(0), k.inTime(1), k.inTime(2)), 0, 0, 0);
        k.word(5, 4);
        row("too late", all(k.inTime(0), k.inTime(1), k.inTime(2)), 0, 0, 0);
        k.word(4, 9);
        k.word(5, 9);
        k.word(9, 9);
        k.word(3, 3);
        row("two", all(k.inTime(0), k.inTime(1), k.inTime(2)), 2, 6, 9);
        k.word(1, 13);
        row("then one more", all(k.inTime(0), k.inTime(1), k.inTime(2)), 3, 2 + 4 + 32, 10);
        k.word(3, 9);
        row("one more can take the place, but is higher", all(k.inTime(0), k.inTime(1), k.inTime(2)), 3, 2 + 4 + 32, 10);
        k.word(2, 9);
        row("4, 3, 1, 2", all(k.inTime(0), k.inTime(1), k.inTime(2)), 4, 2 + 16 + 32 + 128, 10);
        row("others", all(k.inTime(-1), k.inTime(3), k.inTime(Integer.MAX_VALUE)), -1, -1, -1);
    }

    void promise33OneInTime() {
        k.word(99, 99);
        row("just in time", all(k.inTime(0), k.inTime(1), k.inTime(2)), 1, 1, 99);
        k.word(99, 98);
        row("the other can't be", all(k.inTime(0), k.inTime(1), k.inTime(2)), 1, 1, 99);
        k.word(1, 1);
        row("of two sets of one the lowest", all(k.inTime(0), k.inTime(1), k.inTime(2)), 1, 1, 99);
    }

    void promise33AllEightInTime() {
        for (int i = 8; i >= 1; i--) k.word(10, 10 * i);
        row("all", all(k.inTime(0), k.inTime(1), k.inTime(2)), 8, 255, 80);
        k.word(-1, 0);
        for (int i = 0; i < 8; i++) k.word(10, 79);
        row("the lowest", all(k.inTime(0), k.inTime(1), k.inTime(2)), 7, 127, 70);
    }

    void promise34Whom() {
        same(-1, k.whom(0));
        k.one(5, 0);
        same(-1, k.whom(0));
        k.one(5, 0);
        k.one(5, 0);
        row("like ones", all(k.whom(0), k.whom(1), k.whom(2)), 1, 0, 0);
        k.swear(1, 0, 0, 1);
        row("with a mark", all(k.whom(0), k.whom(1), k.whom(2)), 1, 2, 1);
        row("others", all(k.whom(-1), k.whom(3), k.whom(Integer.MIN_VALUE)), -1, -1, -1);
        rule("risk 10-who;");
        row("by the text", all(k.whom(0), k.whom(1), k.whom(2)), 2, 2, 1);
    }

    void promise35Rings() {
        same(0, k.ring());
        threeInARing();
        same(7, k.ring());
        k.swear(1, 3, 1, 1);
        k.swear(3, 0, 1, 1);
        same(7, k.ring());
        k.breaks(1);
        same(1 + 16 + 32, k.ring());
        k.undo();
        k.swear(1, 0, 1, 9);
        same(1 + 64, k.ring());
        k.swear(0, 1, 1, 9);
        same(1 + 64, k.ring());
        k.release(0);
        same(64 + 128, k.ring());
        k.undo();
        k.swear(0, 1, 1, 1);
        for (int i = 0; i < 4; i++) k.skate(0, 1);
        same(0, k.ring());
    }

    void promise35OfLikeOnesTheLowest() {
        people(4);
        k.swear(2, 3, 1, 1);
        k.swear(3, 2, 1, 1);
        k.swear(0, 1, 1, 1);
        k.swear(1, 0, 1, 1);
        same(3, k.ring());
        k.breaks(0);
        same(12, k.ring());
        k.swear(2, 0, 1, 1);
        k.swear(1, 2, 1, 1);
        same(12, k.ring());
        k.breaks(3);
        same(4 + 16 + 32, k.ring());
    }

    void promise35SixInARing() {
        people(6);
        for (int i = 0; i < 5; i++) k.swear(i + 1, i, 1, 1);
        same(0, k.ring());
        k.swear(0, 5, 0, 1);
        same(0, k.ring());
        k.swear(0, 5, 1, 1);
        same(95, k.ring());
        k.swear(4, 5, 1, 1);
        same(16 + 128, k.ring());
    }

    void promise36AllSeen() {
        same(0, k.allSeen());
        people(5);
        same(0, k.allSeen());
        k.swear(3, 4, 0, 1);
        same(8, k.allSeen());
        k.swear(4, 2, 0, 1);
        same(16, k.allSeen());
        k.swear(0, 1, 1, 1);
        same(17, k.allSeen());
        k.swear(1, 2, 1, 1);
        same(18, k.allSeen());
        k.breaks(3);
        same(18, k.allSeen());
        k.release(2);
        k.release(3);
        same(16, k.allSeen());
        for (int i = 0; i < 4; i++) k.skate(4, 0);
        same(4, k.allSeen());
        for (int i = 0; i < 4; i++) k.skate(2, 0);
        same(0, k.allSeen());
    }

    void promise37Tailors() {
        same(-2, k.saw(0, 1));
        people(3);
        int[][] wrong = {{0, 0}, {0, 3}, {3, 0}, {0, -1}, {-2, 0}, {Integer.MAX_VALUE, 0}};
        for (int[] w : wrong) same(-2, k.saw(w[0], w[1]));
        same(0, k.about(7));
        for (int i = 1; i <= 8; i++) same(i, k.saw(0, 1 + i % 2));
        same(-2, k.saw(0, 1));
        same(8, k.about(7));
        same(0, k.saw(-1, -1));
        same(0, k.about(7));
        same(1, k.saw(2, 0));
    }

    void promise38Known() {
        same(-1, k.known(0));
        people(4);
        same(0, k.known(0));
        k.swear(0, 1, 0, 1);
        k.swear(1, 0, 0, 1);
        k.swear(2, 1, 0, 1);
        k.swear(2, 3, 1, 1);
        row("on and by", all(k.known(0), k.known(1), k.known(2), k.known(3)), 3, 7, 12, 8);
        k.saw(0, 1);
        k.saw(1, 3);
        row("seen", all(k.known(0), k.known(1), k.known(2), k.known(3)), 7, 15, 12, 8);
        row("others", all(k.known(-1), k.known(4), k.known(Integer.MAX_VALUE)), -1, -1, -1);
        k.breaks(3);
        k.release(0);
        row("legible", all(k.known(0), k.known(1), k.known(2), k.known(3)), 6, 14, 12, 8);
        k.saw(-1, 0);
        row("seen no more", all(k.known(0), k.known(1)), 2, 6);
    }

    void promise39Together() {
        same(0, k.together());
        people(4);
        same(0, k.together());
        k.swear(0, 1, 0, 1);
        same(1, k.together());
        k.swear(3, 1, 0, 1);
        same(2, k.together());
        k.swear(2, 3, 0, 1);
        same(6, k.together());
        k.saw(0, 3);
        same(3, k.together());
        k.saw(1, 3);
        same(2, k.together());
        k.release(0);
        same(2, k.together());
        k.saw(-1, 0);
        same(8, k.together());
        k.release(1);
        k.release(2);
        same(0, k.together());
    }

    void promise40ToCopy() {
        same(-100000, k.copy(0, 0, 0, false));
        k.one(0, 0);
        k.one(9, 0);
        k.swear(1, 0, 0, 1);
        k.swear(0, 1, 0, 1);
        int[][] wrong = {{2, 0, 0}, {-1, 0, 0}, {0, -1, 0}, {0, 100, 0}, {0, 0, -1}, {0, 0, 10000}, {Integer.MAX_VALUE, 0, 0}};
        for (int[] w : wrong) {
            same(-100000, k.copy(w[0], w[1], w[2], false));
            same(-100000, k.copy(w[0], w[1], w[2], true));
        }
        // oath 0 fades behind 10 days, oath 1 never
        row("late", all(k.copy(0, 2, 101, false), k.copy(0, 2, 101, true)), 60, -19);
        row("like ones", all(k.copy(0, 2, 102, false), k.copy(0, 2, 102, true)), 9, -18);
        row("in time", all(k.copy(0, 99, 9999, false), k.copy(0, 99, 9999, true)), 9, -891);
        row("at no cost", all(k.copy(0, 1, 0, false), k.copy(0, 1, 0, true)), 60, -60);
        row("at no gain", all(k.copy(0, 0, 9999, false), k.copy(0, 0, 9999, true)), 0, 0);
        row("never", all(k.copy(1, 99, 9999, false), k.copy(1, 99, 9999, true)), 60, -5940);
        k.breaks(0);
        for (int i = 0; i < 4; i++) k.skate(0, 0);
        row("too late", all(k.copy(0, 1, 9999, false), k.copy(0, 1, 9999, true)), 60, 9939);
        row("too late", all(k.copy(0, 0, 9999, false), k.copy(0, 0, 9999, true)), 0, 9999);
        k.release(0);
        same(-100000, k.copy(0, 0, 0, true));
        same(0, k.is(0));
    }

    void promise41Worn() {
        people(2);
        same(-2, k.worn(0, 1));
        k.swear(0, 1, 0, 1);
        int[][] wrong = {{1, 0}, {-2, 0}, {0, -1}, {0, 100}, {Integer.MIN_VALUE, 0}};
        for (int[] w : wrong) same(-2, k.worn(w[0], w[1]));
        same(0, k.about(8));
        for (int i = 1; i <= 8; i++) same(i, k.worn(0, i < 5 ? 0 : 99));
        same(-2, k.worn(0, 1));
        same(8, k.about(8));
        same(0, k.worn(-1, 1000));
        same(0, k.about(8));
        k.release(0);
        same(1, k.worn(0, 1));
    }

    void promise42Whose() {
        same(0, k.whose());
        k.one(4, 0);
        k.one(7, 0);
        k.swear(0, 1, 0, 3);
        k.swear(1, 0, 1, 6);
        tell("wears size;");
        tell("day 1;");
        tell("wears 3;");
        tell("wears 3+day;");
        same(15, k.whose());
        k.worn(0, 3);
        same(15, k.whose());
        k.worn(1, 6);
        same(3, k.whose());
        yes(k.by(2));
        same(3, k.whose());
        k.undo();
        same(15, k.whose());
        k.day(1);
        same(7, k.whose());
        k.worn(-1, 0);
        k.worn(0, 98);
        same(0, k.whose());
        k.undo();
        k.undo();
        same(0, k.is(3));
        same(15, k.whose());
    }

    void promise43MostSworn() {
        same(-1, k.mostSworn());
        people(3);
        same(-1, k.mostSworn());
        k.swear(2, 0, 0, 1);
        same(2, k.mostSworn());
        k.swear(1, 0, 1, 1);
        same(1, k.mostSworn());
        k.swear(2, 1, 0, 1);
        same(2, k.mostSworn());
        k.release(2);
        same(1, k.mostSworn());
        k.breaks(1);
        same(1, k.mostSworn());
        for (int i = 0; i < 4; i++) k.skate(0, 1);
        same(2, k.mostSworn());
        k.release(0);
        same(-1, k.mostSworn());
        k.swear(0, 1, 0, 1);
        same(0, k.mostSworn());
        k.swear(1, 0, 0, 1);
        same(0, k.mostSworn());
    }

    void promise44Faithful() {
        same(0, k.faithful());
        people(6);
        same(63, k.faithful());
        k.swear(5, 0, 0, 1);
        k.swear(0, 5, 0, 1);
        k.swear(5, 0, 0, 1);
        k.breaks(0);
        same(31, k.faithful());
        k.breaks(1);
        same(30, k.faithful());
        k.release(0);
        same(62, k.faithful());
        for (int i = 0; i < 4; i++) k.skate(5, 0);
        same(62, k.faithful());
    }

    void promise45AchedByTheBook() {
        same(0, k.ached(-1));
        same(-2, k.ached(0));
        people(3);
        k.swear(0, 1, 0, 1);
        k.swear(0, 2, 0, 1);
        k.breaks(0);
        k.breaks(1);
        rule("aches who*10;");
        k.day(3);
        row("ached", all(k.ached(-1), k.ached(0), k.ached(1), k.ached(2)), 90, 0, 30, 60);
        row("others", all(k.ached(3), k.ached(-2), k.ached(Integer.MAX_VALUE)), -2, -2, -2);
        k.day(20);
        row("of thirty", all(k.ached(-1), k.ached(1), k.ached(2)), 450, 150, 300);
        k.undo();
        same(450, k.ached(-1));
    }

    void promise46WorstDay() {
        same(-1, k.worstDay());
        people(3);
        k.swear(0, 1, 0, 1);
        k.swear(0, 2, 0, 1);
        k.breaks(0);
        k.breaks(1);
        rule("aches if day=3 then 40 else if day=5 and who=2 then 70 else if day=6 then 70 else 1 end end end;");
        k.day(3);
        same(0, k.worstDay());
        k.day(1);
        same(3, k.worstDay());
        k.day(1);
        same(3, k.worstDay());
        k.day(1);
        same(5, k.worstDay());
        k.day(1);
        same(5, k.worstDay());
        k.day(15);
        same(22, k.is(0));
        row("the eldest left", entry(0), 7, 1, 1);
        same(7, k.worstDay());
    }

    void promise46TheWorstIsTheFirst() {
        people(2);
        k.swear(0, 1, 0, 1);
        k.breaks(0);
        rule("aches 50-day;");
        k.day(3);
        same(0, k.worstDay());
        k.day(29);
        same(2, k.worstDay());
    }

    // ---- the image ----

    void promise47AnImageIsTaken() {
        same(0, k.image());
        people(2);
        k.swear(0, 1, 0, 1);
        k.day(2);
        same(2, k.image());
        k.day(1);
        k.image();
        k.day(1);
        same(3, k.back());
    }

    void promise48Back() {
        same(0, k.back());
        people(3);
        k.swear(0, 1, 0, 9);
        k.swear(1, 0, 1, 2);
        k.breaks(0);
        rule("wears 8;");
        k.day(2);
        k.felt(0, 1, 1);
        k.clash(0, 1);
        k.word(1, 1);
        k.word(2, 2);
        k.saw(0, 1);
        k.worn(0, 8);
        same(2, k.image());
        people(2);
        k.swear(3, 4, 0, 1);
        k.release(0);
        k.kneel(0);
        k.day(9);
        rule("wears 9;");
        k.felt(1, 1, 1);
        k.clash(2, 1);
        k.word(3, 3);
        k.saw(2, 1);
        k.worn(1, 8);
        k.feed(0, 0, 0, 0, 0);
        for (int i = 0; i < 2; i++) {
            same(2, k.back());
            row("about", aboutAll(), 3, 1, 0, 5, 1, 1, 2, 1, 1, 20);
            row("is", all(k.is(0), k.is(1), k.is(2), k.is(3), k.book(-1, 0)), 2, 1, 28089, 2, 1);
            row("0", oath(0), 0, 1, 0, 9, 1, 0, 0, 8, 0);
            row("1", oath(1), 1, 0, 1, 2, 0, 0, 0, 8, 0);
            row("steps too", all(k.undo(), k.undo(), k.undo(), k.undo(), k.undo(), k.undo()), 4, 3, 2, 1, 0, -1);
        }
        same(1, tell("wears 5;"));
    }

    void promise48PeopleAndTextsToldSinceAreGone() {
        k.one(1, 11);
        tell("wears 11;");
        k.image();
        k.one(2, 22);
        tell("wears 22;");
        k.back();
        same(-1000, k.of(1, 0));
        no(k.by(1));
        same(-2, k.played(1));
        same(1, k.one(3, 33));
        same(1, tell("wears 33;"));
        k.swear(0, 1, 0, 1);
        yes(k.by(1));
        row("the new ones", all(k.of(1, 0), k.of(1, 1), k.ofOath(0, 7)), 3, 33, 33);
        yes(k.by(0));
        same(11, k.ofOath(0, 7));
    }

    void promise48NoStepIsAddedAndTheImageStays() {
        people(2);
        k.image();
        for (int i = 0; i < 3; i++) {
            k.swear(0, 1, 0, 1);
            same(0, k.back());
            same(0, k.about(3));
            same(0, k.is(3));
            same(2, k.about(0));
        }
    }

    void promise48MoreThanThirtyStepsAreInTheImage() {
        people(2);
        k.swear(0, 1, 0, 1);
        k.day(44);
        k.image();
        k.day(17);
        k.back();
        same(30, k.about(3));
        for (int i = 29; i >= 0; i--) {
            same(i, k.undo());
            same(14 + i, k.is(0));
        }
    }

    void promise49About() {
        for (int what : new int[] {-1, 10, Integer.MAX_VALUE, Integer.MIN_VALUE}) same(-2, k.about(what));
        people(4);
        tell("day 1;");
        tell("day 2;");
        tell("day 3;");
        k.by(1);
        k.swear(0, 1, 0, 1);
        k.swear(0, 1, 0, 1);
        k.felt(0, 0, 0);
        k.clash(0, 1);
        k.clash(1, 0);
        for (int i = 0; i < 3; i++) k.word(1, 1);
        for (int i = 0; i < 4; i++) k.saw(0, 1);
        for (int i = 0; i < 5; i++) k.worn(0, 1);
        k.feed(0, 0, 0, 0, 0);
        k.end(6);
        row("about", aboutAll(), 4, 3, 1, 2, 1, 2, 3, 4, 5, 6);
        k.undo();
        row("about", aboutAll(), 4, 3, 1, 1, 1, 2, 3, 4, 5, 6);
    }
}
