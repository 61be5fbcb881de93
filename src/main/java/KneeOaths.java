/**
 * Knees as oath books: people, the oaths sworn on their knees, the laws told as texts, and what can be
 * asked of them. ../shared/DOC.md says what each call answers; words in capitals are the document's.
 */
public final class KneeOaths {
    public static final int NONE = -1;

    private static final int REFUSED = -2;
    private static final int NO_FIGURE = -1000;
    private static final int NO_COPY = -100000;

    private static final int MAX_PEOPLE = 6;
    private static final int MAX_OATHS = 14;
    private static final int MAX_TEXTS = 4;
    private static final int MAX_BYTES = 300;
    private static final int FED_AT_ONCE = 20;
    private static final int MAX_CLAUSES = 24;
    private static final int MAX_OPEN = 8;
    private static final int MAX_JUST = 6;
    private static final int MAX_NUMBER = 9999;
    private static final int MAX_VALUE = 1000000;
    private static final int MAX_ACHES = 30;
    private static final int MAX_STEPS = 30;
    private static final int MAX_FEELINGS = 6;
    private static final int MAX_TOLD = 8;
    private static final int MAX_TOUGH = 9;
    private static final int MAX_AGE = 99;
    private static final int MAX_SIZE = 9;
    private static final int MAX_RAIN = 9;
    private static final int MAX_RISK = 9999;
    private static final int MAX_ACHE = 999;
    private static final int MAX_SHOWN = 99;
    private static final int MAX_WORK = 99;
    private static final int MAX_DUE = 999;
    private static final int MAX_WAIT = 99;
    private static final int MAX_LOSS = 9999;
    private static final int MAX_LAW = 99;
    private static final int MAX_YEARS = 40;
    private static final int LAST_DAY = 9999;
    private static final int DAYS_AHEAD = 60;
    private static final int UNREADABLE = 99;
    private static final int SKATED = 30;
    private static final int FIRST_X = 137;

    // the cells of an OATH, in the order in which ofOath tells them
    private static final int OATH_BY = 0;
    private static final int OATH_ON = 1;
    private static final int OATH_KNEE = 2;
    private static final int OATH_SIZE = 3;
    private static final int OATH_STATE = 4;
    private static final int OATH_WEAR = 5;
    private static final int OATH_DAY = 6;
    private static final int OATH_CELLS = 7;

    private static final int LEFT = 0;
    private static final int RIGHT = 1;

    private static final int KEPT = 0;
    private static final int BROKEN = 1;
    private static final int RELEASED = 2;

    // the cells of an ache in the BOOK, in the order in which book tells them
    private static final int ACHE_DAY = 0;
    private static final int ACHE_WHO = 1;
    private static final int ACHE_MUCH = 2;
    private static final int ACHE_CELLS = 3;

    private static final int TOLD_CELLS = 3;

    private static final int LAWS = 3;

    // the words of TEXTS: those that begin a CLAUSE are 0 to 9 (laws first), NAMES 9 to 18, of an OATH alone from 14 on
    private static final String WORDS = "wears aches risk one swear break release kneel skate day rain tough age who size knee wear since by to left right marks if then else end or and not just ";
    private static final int WORD_WEARS = 0;
    private static final int WORD_ACHES = 1;
    private static final int WORD_RISK = 2;
    private static final int WORD_ONE = 3;
    private static final int WORD_SWEAR = 4;
    private static final int WORD_BREAK = 5;
    private static final int WORD_RELEASE = 6;
    private static final int WORD_KNEEL = 7;
    private static final int WORD_SKATE = 8;
    private static final int WORD_DAY = 9;
    private static final int WORD_RAIN = 10;
    private static final int WORD_TOUGH = 11;
    private static final int WORD_AGE = 12;
    private static final int WORD_WHO = 13;
    private static final int WORD_SIZE = 14;
    private static final int WORD_KNEE = 15;
    private static final int WORD_WEAR = 16;
    private static final int WORD_SINCE = 17;
    private static final int WORD_BY = 18;
    private static final int WORD_TO = 19;
    private static final int WORD_LEFT = 20;
    private static final int WORD_RIGHT = 21;
    private static final int WORD_MARKS = 22;
    private static final int WORD_IF = 23;
    private static final int WORD_THEN = 24;
    private static final int WORD_ELSE = 25;
    private static final int WORD_END = 26;
    private static final int WORD_OR = 27;
    private static final int WORD_AND = 28;
    private static final int WORD_NOT = 29;
    private static final int WORD_JUST = 30;

    // the other TOKENS: a sign is its own byte, with = behind it 256 more
    private static final String SIGNS = "<>=#+-*/(),;";
    private static final int WITH_EQUAL = 256;
    private static final int TOKEN_NUMBER = 1000;
    private static final int TOKEN_UNKNOWN = 1001;
    private static final int TOKEN_END = 1002;

    private static final int FAULT_PLACE = 1;
    private static final int FAULT_NUMBER = 2;
    private static final int FAULT_OPEN = 3;
    private static final int FAULT_TWICE = 4;
    private static final int FAULT_NAME = 5;
    private static final int FAULT_CLAUSES = 6;
    private static final int FAULT_JUST = 7;

    // what a law is worked out by: each takes what is behind it from the stack and puts its answer there
    private static final int DO_NUMBER = 0;
    private static final int DO_NAME = 1;
    private static final int DO_MARKS = 2;
    private static final int DO_JUMP = 3;
    private static final int DO_UNLESS = 4;
    private static final int DO_NEGATE = 5;
    private static final int DO_NOT = 6;
    private static final int DO_JUST = 7;
    private static final int DO_ADD = 8;
    private static final int DO_SUBTRACT = 9;
    private static final int DO_MULTIPLY = 10;
    private static final int DO_DIVIDE = 11;
    private static final int DO_LESS = 12;
    private static final int DO_AT_MOST = 13;
    private static final int DO_MORE = 14;
    private static final int DO_AT_LEAST = 15;
    private static final int DO_EQUAL = 16;
    private static final int DO_UNLIKE = 17;
    private static final int DO_AND = 18;
    private static final int DO_OR = 19;

    // a CLAUSE: its first word and up to four numbers
    private static final int CLAUSE_KIND = 0;
    private static final int CLAUSE_CELLS = 5;

    private final World world;
    private final World kept;
    private final Reader reader;
    private final Judge judge;
    private final Rings rings;
    private final Deeds deeds;
    private final Foresight foresight;
    private final Suspicions suspicions;
    private final Choices choices;

    public KneeOaths() {
        Ledger scratch = new Ledger();
        world = new World();
        kept = new World();
        reader = new Reader();
        judge = new Judge(world);
        rings = new Rings(world);
        deeds = new Deeds(world, judge, rings);
        foresight = new Foresight(world, judge, deeds, scratch);
        suspicions = new Suspicions(world, judge, scratch);
        choices = new Choices(world);
    }

    private static boolean within(int value, int least, int most) {
        return value >= least && value <= most;
    }

    public int one(int tough, int age) {
        return world.welcome(tough, age);
    }

    public int feed(int a, int b, int c, int d, int e) {
        if (!reader.hasRoomFor(FED_AT_ONCE)) {
            return NONE;
        }
        reader.append(a);
        reader.append(b);
        reader.append(c);
        reader.append(d);
        reader.append(e);
        return reader.size();
    }

    public int end(int n) {
        return reader.cutTo(n) ? n : NONE;
    }

    public int text() {
        Script script = world.freeScript();
        if (script == null) {
            return NONE;
        }
        return reader.read(script) ? world.keepScript() : NONE;
    }

    public int fault(int what) {
        if (what == 0) {
            return reader.faultKind();
        }
        return what == 1 ? reader.faultPlace() : NONE;
    }

    public boolean by(int text) {
        return world.putUnder(text);
    }

    public int swear(int by, int on, int knee, int size) {
        return deeds.swearIn(by, on, knee, size);
    }

    public boolean breaks(int oath) {
        return deeds.breakOath(oath);
    }

    public boolean release(int oath) {
        return deeds.releaseOath(oath);
    }

    public int kneel(int one) {
        return deeds.kneelDown(one) ? world.now.marks(one) : NONE;
    }

    public int skate(int one, int knee) {
        return deeds.slide(one, knee) ? world.now.marks(one) : NONE;
    }

    public int strike(int oaths) {
        return deeds.strikeOut(oaths);
    }

    public int day(int n) {
        if (!within(n, 1, DAYS_AHEAD) || world.now.date + n > LAST_DAY) {
            return NONE;
        }
        for (int i = 0; i < n; i++) {
            deeds.passDay();
        }
        return world.now.rain;
    }

    public int played(int text) {
        Script script = world.script(text);
        if (script == null) {
            return REFUSED;
        }
        for (int clause = 0; clause < script.clauseCount; clause++) {
            if (!deeds.perform(script, clause)) {
                return clause;
            }
        }
        return NONE;
    }

    public int years(int seed, int n) {
        if (!within(seed, 0, MAX_NUMBER) || !within(n, 1, MAX_YEARS) || world.people == 0) {
            return NONE;
        }
        deeds.beginYears(seed);
        for (int i = 0; i < n; i++) {
            deeds.liveOn();
        }
        deeds.endYears();
        return world.now.date;
    }

    public int undo() {
        return world.takeBack() ? world.steps : NONE;
    }

    public int of(int one, int what) {
        if (!world.has(one)) {
            return NO_FIGURE;
        }
        switch (what) {
            case 0: return world.toughOf(one);
            case 1: return world.ageOf(one);
            case 2: return world.now.marks(one);
            case 3: return judge.acheOf(world.now, one);
            case 4: return judge.riskOf(world.now, one);
            case 5: return choices.net(one);
            default: return NO_FIGURE;
        }
    }

    public int ofOath(int oath, int what) {
        if (!world.now.has(oath)) {
            return NONE;
        }
        if (what == OATH_CELLS) {
            return judge.wearOf(world.ruling, world.now, oath);
        }
        return what == OATH_CELLS + 1 ? judge.painOf(world.now, oath) : world.now.get(oath, what);
    }

    public int is(int what) {
        switch (what) {
            case 0: return world.now.date;
            case 1: return world.now.rain;
            case 2: return world.now.x;
            case 3: return world.now.oathCount;
            default: return REFUSED;
        }
    }

    public int book(int i, int what) {
        return i == NONE ? world.now.acheCount : world.now.written(i, what);
    }

    public int foretold(int n, int one) {
        if (!within(n, 1, DAYS_AHEAD)) {
            return NONE;
        }
        if (one == NONE) {
            return foresight.rainBehind(n);
        }
        return world.has(one) ? foresight.achesWithin(n, one) : NONE;
    }

    public int firstAche(int one) {
        return world.has(one) ? foresight.daysToAche(one) : NONE;
    }

    public int fades(int oath) {
        return foresight.daysToFade(oath);
    }

    public int felt(int one, int rain, int ache) {
        if (one == NONE) {
            return world.feelings.forget();
        }
        if (!world.has(one) || !within(rain, 0, MAX_RAIN) || !within(ache, 0, MAX_ACHE)) {
            return REFUSED;
        }
        return world.feelings.tell(one, rain, ache);
    }

    public int breaches(int one, int what) {
        if (!world.has(one) || !within(what, 0, 2)) {
            return NONE;
        }
        suspicions.weigh(one);
        if (what == 0) {
            return suspicions.sets();
        }
        return what == 1 ? suspicions.sureBroken() : suspicions.sureKept();
    }

    public int odds(int oath, boolean low) {
        if (!world.now.legible(oath)) {
            return NONE;
        }
        suspicions.weigh(world.now.get(oath, OATH_ON));
        return suspicions.chance(oath, low);
    }

    public int nextAsked(int one) {
        if (!world.has(one)) {
            return NONE;
        }
        suspicions.weigh(one);
        return suspicions.mostTelling();
    }

    public int clash(int one, int other) {
        if (one == NONE) {
            return world.clashes.forget();
        }
        if (!world.now.has(one) || !world.now.has(other) || one == other) {
            return REFUSED;
        }
        return world.clashes.tell(one, other, 0);
    }

    public int leastReleased() {
        return choices.fewestReleased();
    }

    public int forged(int one, int knee, int shown) {
        if (!world.has(one) || !within(knee, LEFT, RIGHT) || !within(shown, 0, MAX_SHOWN)) {
            return NO_FIGURE;
        }
        return shown - world.now.marksOnKnee(one, knee);
    }

    public int word(int work, int due) {
        if (work == NONE) {
            return world.words.forget();
        }
        if (!within(work, 1, MAX_WORK) || !within(due, 0, MAX_DUE)) {
            return REFUSED;
        }
        return world.words.tell(work, due, 0);
    }

    public int inTime(int what) {
        if (!within(what, 0, 2)) {
            return NONE;
        }
        int set = choices.mostInTime();
        if (what == 0) {
            return Integer.bitCount(set);
        }
        return what == 1 ? set : choices.workOf(set, MAX_DUE);
    }

    public int whom(int but) {
        if (!world.has(but)) {
            return NONE;
        }
        int best = NONE;
        int least = 0;
        for (int one = 0; one < world.people; one++) {
            int risk = one == but ? 0 : judge.riskOf(world.now, one);
            if (one != but && (best == NONE || risk < least)) {
                best = one;
                least = risk;
            }
        }
        return best;
    }

    public int ring() {
        return rings.shortest();
    }

    public int allSeen() {
        return choices.fewestAsked();
    }

    public int saw(int tailor, int one) {
        if (tailor == NONE) {
            return world.sights.forget();
        }
        if (!world.has(tailor) || !world.has(one) || tailor == one) {
            return REFUSED;
        }
        return world.sights.tell(tailor, one, 0);
    }

    public int known(int one) {
        return world.has(one) ? choices.wordsOf(one) : NONE;
    }

    public int together() {
        return choices.fewestKnowing();
    }

    public int copy(int oath, int c, int l, boolean cost) {
        if (!world.now.unreleased(oath) || !within(c, 0, MAX_WAIT) || !within(l, 0, MAX_LOSS)) {
            return NO_COPY;
        }
        int fading = foresight.daysToFade(oath);
        int best = 0;
        int least = 0;
        for (int k = 0; k <= DAYS_AHEAD; k++) {
            int price = (fading != NONE && fading <= k ? l : 0) - c * k;
            if (k == 0 || price < least) {
                best = k;
                least = price;
            }
        }
        return cost ? least : best;
    }

    public int worn(int oath, int more) {
        if (oath == NONE) {
            return world.wearings.forget();
        }
        if (!world.now.has(oath) || !within(more, 0, MAX_LAW)) {
            return REFUSED;
        }
        return world.wearings.tell(oath, more, 0);
    }

    public int whose() {
        int texts = 0;
        for (int text = 0; text < world.textCount; text++) {
            if (judge.explains(text)) {
                texts |= 1 << text;
            }
        }
        return texts;
    }

    public int mostSworn() {
        return choices.mostOften();
    }

    public int faithful() {
        return choices.unbroken();
    }

    public int ached(int one) {
        if (one != NONE && !world.has(one)) {
            return REFUSED;
        }
        return world.now.writtenOf(one);
    }

    public int worstDay() {
        return world.now.dayOfMost();
    }

    public int image() {
        kept.takeOver(world);
        return world.now.date;
    }

    public int back() {
        world.takeOver(kept);
        return world.now.date;
    }

    public int about(int what) {
        switch (what) {
            case 0: return world.people;
            case 1: return world.textCount;
            case 2: return world.ruling;
            case 3: return world.steps;
            case 4: return world.feelings.count;
            case 5: return world.clashes.count;
            case 6: return world.words.count;
            case 7: return world.sights.count;
            case 8: return world.wearings.count;
            case 9: return reader.size();
            default: return REFUSED;
        }
    }

    /** What a STEP changes, and what is as ahead of it when it is taken back: OATHS, DAY, RAIN, X, BOOK. */
    private static final class Ledger {
        private final int[] oaths = new int[MAX_OATHS * OATH_CELLS];
        private final int[] aches = new int[MAX_ACHES * ACHE_CELLS];
        private int oathCount;
        private int acheCount;
        private int date;
        private int rain;
        private int x = FIRST_X;

        void takeOver(Ledger other) {
            System.arraycopy(other.oaths, 0, oaths, 0, oaths.length);
            System.arraycopy(other.aches, 0, aches, 0, aches.length);
            oathCount = other.oathCount;
            acheCount = other.acheCount;
            date = other.date;
            rain = other.rain;
            x = other.x;
        }

        boolean has(int oath) {
            return oath >= 0 && oath < oathCount;
        }

        int get(int oath, int what) {
            if (oath < 0 || oath >= oathCount || what < 0 || what >= OATH_CELLS) {
                return NONE;
            }
            return oaths[oath * OATH_CELLS + what];
        }

        void put(int oath, int what, int value) {
            if (oath >= 0 && oath < oathCount && what >= 0 && what < OATH_CELLS) {
                oaths[oath * OATH_CELLS + what] = value;
            }
        }

        int addOath(int by, int on, int knee, int size) {
            if (oathCount >= MAX_OATHS) {
                return NONE;
            }
            int oath = oathCount;
            oathCount++;
            put(oath, OATH_BY, by);
            put(oath, OATH_ON, on);
            put(oath, OATH_KNEE, knee);
            put(oath, OATH_SIZE, size);
            put(oath, OATH_STATE, KEPT);
            put(oath, OATH_WEAR, 0);
            put(oath, OATH_DAY, date);
            return oath;
        }

        void moreWear(int oath, int more) {
            put(oath, OATH_WEAR, Math.min(UNREADABLE, get(oath, OATH_WEAR) + more));
        }

        boolean unreleased(int oath) {
            return has(oath) && get(oath, OATH_STATE) != RELEASED;
        }

        boolean legible(int oath) {
            return get(oath, OATH_WEAR) < UNREADABLE && unreleased(oath);
        }

        boolean legibleOn(int oath, int one) {
            if (oath < 0 || oath >= oathCount) {
                return false;
            }
            int at = oath * OATH_CELLS;
            return oaths[at + OATH_ON] == one && oaths[at + OATH_WEAR] < UNREADABLE && oaths[at + OATH_STATE] != RELEASED;
        }

        int marks(int one) {
            int marks = 0;
            for (int oath = 0; oath < oathCount; oath++) {
                if (legibleOn(oath, one)) {
                    marks++;
                }
            }
            return marks;
        }

        int marksOnKnee(int one, int knee) {
            int marks = 0;
            for (int oath = 0; oath < oathCount; oath++) {
                if (legibleOn(oath, one) && get(oath, OATH_KNEE) == knee) {
                    marks++;
                }
            }
            return marks;
        }

        int draw() {
            int drawn = x;
            x = (x * 367 + 241) % 30449;
            return drawn;
        }

        boolean lastsOn() {
            return date < LAST_DAY;
        }

        void turnDay() {
            date++;
            rain = draw() % 10;
        }

        void write(int one, int much) {
            if (acheCount >= MAX_ACHES) {
                System.arraycopy(aches, ACHE_CELLS, aches, 0, aches.length - ACHE_CELLS);
                acheCount = MAX_ACHES - 1;
            }
            int at = acheCount * ACHE_CELLS;
            aches[at + ACHE_DAY] = date;
            aches[at + ACHE_WHO] = one;
            aches[at + ACHE_MUCH] = much;
            acheCount++;
        }

        int written(int i, int what) {
            if (i < 0 || i >= acheCount || what < 0 || what >= ACHE_CELLS) {
                return REFUSED;
            }
            return aches[i * ACHE_CELLS + what];
        }

        int writtenOf(int one) {
            int much = 0;
            for (int i = 0; i < acheCount; i++) {
                if (one == NONE || written(i, ACHE_WHO) == one) {
                    much += written(i, ACHE_MUCH);
                }
            }
            return much;
        }

        int dayOfMost() {
            int best = NONE;
            int most = 0;
            for (int i = 0; i < acheCount; i++) {
                if (written(i, ACHE_MUCH) > most) {
                    most = written(i, ACHE_MUCH);
                    best = written(i, ACHE_DAY);
                }
            }
            return best;
        }
    }

    /** Rows of up to three numbers that were told, as many as its limit. */
    private static final class Told {
        private final int[] cells = new int[MAX_TOLD * TOLD_CELLS];
        private final int limit;
        private int count;

        Told(int limit) {
            this.limit = Math.min(limit, MAX_TOLD);
        }

        int tell(int first, int second, int third) {
            if (count >= limit) {
                return REFUSED;
            }
            int at = count * TOLD_CELLS;
            cells[at] = first;
            cells[at + 1] = second;
            cells[at + 2] = third;
            count++;
            return count;
        }

        int forget() {
            count = 0;
            return 0;
        }

        int get(int row, int what) {
            if (row < 0 || row >= count || what < 0 || what >= TOLD_CELLS) {
                return NONE;
            }
            return cells[row * TOLD_CELLS + what];
        }

        void takeOver(Told other) {
            System.arraycopy(other.cells, 0, cells, 0, cells.length);
            count = other.count;
        }
    }

    /** A TEXT as it was read: its CLAUSES, and its laws as rows of what is to be done one behind the other. */
    private static final class Script {
        private final int[] doings = new int[MAX_BYTES];
        private final int[] numbers = new int[MAX_BYTES];
        private final int[] lawFrom = new int[LAWS];
        private final int[] lawTo = new int[LAWS];
        private final int[] clauses = new int[MAX_CLAUSES * CLAUSE_CELLS];
        private int length;
        private int clauseCount;

        void clear() {
            length = 0;
            clauseCount = 0;
            for (int law = 0; law < LAWS; law++) {
                lawFrom[law] = 0;
                lawTo[law] = 0;
            }
        }

        void takeOver(Script other) {
            System.arraycopy(other.doings, 0, doings, 0, doings.length);
            System.arraycopy(other.numbers, 0, numbers, 0, numbers.length);
            System.arraycopy(other.lawFrom, 0, lawFrom, 0, lawFrom.length);
            System.arraycopy(other.lawTo, 0, lawTo, 0, lawTo.length);
            System.arraycopy(other.clauses, 0, clauses, 0, clauses.length);
            length = other.length;
            clauseCount = other.clauseCount;
        }

        int add(int doing, int number) {
            if (length >= MAX_BYTES) {
                return NONE;
            }
            doings[length] = doing;
            numbers[length] = number;
            length++;
            return length - 1;
        }

        void leadHere(int place) {
            if (place >= 0 && place < length) {
                numbers[place] = length;
            }
        }

        void addLaw(int law, int from) {
            if (law >= 0 && law < LAWS) {
                lawFrom[law] = from;
                lawTo[law] = length;
            }
        }

        /** A law has at least one thing to do, so that one from 0 to 0 is none. */
        boolean hasLaw(int law) {
            return law >= 0 && law < LAWS && lawFrom[law] < lawTo[law];
        }

        int lawStart(int law) {
            return law >= 0 && law < LAWS ? lawFrom[law] : 0;
        }

        int lawEnd(int law) {
            return law >= 0 && law < LAWS ? lawTo[law] : 0;
        }

        int doing(int place) {
            return place >= 0 && place < length ? doings[place] : NONE;
        }

        int number(int place) {
            return place >= 0 && place < length ? numbers[place] : NONE;
        }

        boolean isFull() {
            return clauseCount >= MAX_CLAUSES;
        }

        void addClause(int kind) {
            if (clauseCount < MAX_CLAUSES) {
                clauseCount++;
                setClause(CLAUSE_KIND, kind);
            }
        }

        /** Of the latest CLAUSE. */
        void setClause(int cell, int value) {
            if (clauseCount > 0 && cell >= 0 && cell < CLAUSE_CELLS) {
                clauses[(clauseCount - 1) * CLAUSE_CELLS + cell] = value;
            }
        }

        int clause(int clause, int cell) {
            if (clause < 0 || clause >= clauseCount || cell < 0 || cell >= CLAUSE_CELLS) {
                return NONE;
            }
            return clauses[clause * CLAUSE_CELLS + cell];
        }
    }

    /** All that THE IMAGE keeps. */
    private static final class World {
        private final int[] toughs = new int[MAX_PEOPLE];
        private final int[] ages = new int[MAX_PEOPLE];
        private final Script[] scripts = new Script[MAX_TEXTS];
        private final Ledger now = new Ledger();
        private final Ledger[] past = new Ledger[MAX_STEPS];
        private final Told feelings = new Told(MAX_FEELINGS);
        private final Told clashes = new Told(MAX_TOLD);
        private final Told words = new Told(MAX_TOLD);
        private final Told sights = new Told(MAX_TOLD);
        private final Told wearings = new Told(MAX_TOLD);
        private int people;
        private int textCount;
        private int ruling = NONE;
        private int eldest;
        private int steps;

        World() {
            for (int i = 0; i < MAX_TEXTS; i++) {
                scripts[i] = new Script();
            }
            for (int i = 0; i < MAX_STEPS; i++) {
                past[i] = new Ledger();
            }
        }

        void takeOver(World other) {
            System.arraycopy(other.toughs, 0, toughs, 0, toughs.length);
            System.arraycopy(other.ages, 0, ages, 0, ages.length);
            for (int i = 0; i < other.textCount; i++) {
                scripts[i].takeOver(other.scripts[i]);
            }
            for (int i = 0; i < MAX_STEPS; i++) {
                past[i].takeOver(other.past[i]);
            }
            now.takeOver(other.now);
            feelings.takeOver(other.feelings);
            clashes.takeOver(other.clashes);
            words.takeOver(other.words);
            sights.takeOver(other.sights);
            wearings.takeOver(other.wearings);
            people = other.people;
            textCount = other.textCount;
            ruling = other.ruling;
            eldest = other.eldest;
            steps = other.steps;
        }

        boolean has(int one) {
            return one >= 0 && one < people;
        }

        int welcome(int tough, int age) {
            if (people >= MAX_PEOPLE || !within(tough, 0, MAX_TOUGH) || !within(age, 0, MAX_AGE)) {
                return NONE;
            }
            toughs[people] = tough;
            ages[people] = age;
            people++;
            return people - 1;
        }

        int toughOf(int one) {
            return one >= 0 && one < people ? toughs[one] : 0;
        }

        int ageOf(int one) {
            return one >= 0 && one < people ? ages[one] : 0;
        }

        Script script(int text) {
            return text >= 0 && text < textCount ? scripts[text] : null;
        }

        Script freeScript() {
            return textCount < MAX_TEXTS ? scripts[textCount] : null;
        }

        int keepScript() {
            textCount++;
            return textCount - 1;
        }

        boolean putUnder(int text) {
            if (text != NONE && script(text) == null) {
                return false;
            }
            ruling = text;
            return true;
        }

        void remember() {
            past[(eldest + steps) % MAX_STEPS].takeOver(now);
            if (steps < MAX_STEPS) {
                steps++;
            } else {
                eldest = (eldest + 1) % MAX_STEPS;
            }
        }

        boolean takeBack() {
            if (steps == 0) {
                return false;
            }
            steps--;
            now.takeOver(past[(eldest + steps) % MAX_STEPS]);
            return true;
        }
    }

    /** The tape, and the reading of it as a TEXT. */
    private static final class Reader {
        private final int[] tape = new int[MAX_BYTES];
        private final int[] kinds = new int[MAX_BYTES + 1];
        private final int[] places = new int[MAX_BYTES + 1];
        private final int[] values = new int[MAX_BYTES + 1];
        private int length;
        private int tokenCount;
        private int tokensRead;
        private int token;
        private int place;
        private int value;
        private int law;
        private Script script;
        private int faultKind = NONE;
        private int faultPlace = NONE;

        int size() {
            return length;
        }

        int faultKind() {
            return faultKind;
        }

        int faultPlace() {
            return faultPlace;
        }

        boolean hasRoomFor(int bytes) {
            return length + bytes <= MAX_BYTES;
        }

        /** Four bytes, the highest first. */
        void append(int four) {
            for (int shift = 24; shift >= 0; shift -= 8) {
                if (length < MAX_BYTES) {
                    tape[length] = four >>> shift & 255;
                    length++;
                }
            }
        }

        boolean cutTo(int bytes) {
            if (bytes < 0 || bytes > length) {
                return false;
            }
            length = bytes;
            return true;
        }

        /** Reads the tape into a script, and empties it. */
        boolean read(Script into) {
            script = into;
            script.clear();
            faultKind = 0;
            faultPlace = NONE;
            cutTokens();
            tokensRead = 0;
            step();
            boolean fine = true;
            for (int i = 0; i <= MAX_CLAUSES && fine && token != TOKEN_END; i++) {
                fine = readClause();
            }
            length = 0;
            return fine;
        }

        private boolean fail(int kind) {
            faultKind = kind;
            faultPlace = place;
            return false;
        }

        private int byteAt(int at) {
            return at >= 0 && at < length ? tape[at] : NONE;
        }

        private static boolean isLetter(int sign) {
            return sign >= 'a' && sign <= 'z' || sign >= 'A' && sign <= 'Z';
        }

        private static boolean isDigit(int sign) {
            return sign >= '0' && sign <= '9';
        }

        private void cutTokens() {
            tokenCount = 0;
            int at = 0;
            for (int i = 0; i < MAX_BYTES && at < length; i++) {
                int sign = byteAt(at);
                if (sign == 32 || sign == 10) {
                    at++;
                } else if (isLetter(sign)) {
                    at = cutWord(at);
                } else if (isDigit(sign)) {
                    at = cutNumber(at);
                } else {
                    at = cutSign(at);
                }
            }
            addToken(TOKEN_END, length, 0);
        }

        private void addToken(int kind, int from, int number) {
            if (tokenCount < kinds.length) {
                kinds[tokenCount] = kind;
                places[tokenCount] = from;
                values[tokenCount] = number;
                tokenCount++;
            }
        }

        private int cutWord(int from) {
            int to = from;
            while (to < length && isLetter(byteAt(to))) {
                to++;
            }
            addToken(wordNumber(from, to), from, 0);
            return to;
        }

        private int wordNumber(int from, int to) {
            int word = 0;
            int start = 0;
            for (int i = 0; i < WORDS.length(); i++) {
                if (WORDS.charAt(i) == ' ') {
                    if (i - start == to - from && isWord(start, i, from)) {
                        return word;
                    }
                    word++;
                    start = i + 1;
                }
            }
            return TOKEN_UNKNOWN;
        }

        private boolean isWord(int start, int stop, int from) {
            for (int i = start; i < stop; i++) {
                if (WORDS.charAt(i) != byteAt(from + i - start)) {
                    return false;
                }
            }
            return true;
        }

        /** A value above 9999 is held just above it, so that no row of digits is too long. */
        private int cutNumber(int from) {
            int to = from;
            int number = 0;
            while (to < length && isDigit(byteAt(to))) {
                number = Math.min(MAX_NUMBER + 1, number * 10 + byteAt(to) - '0');
                to++;
            }
            addToken(TOKEN_NUMBER, from, number);
            return to;
        }

        private int cutSign(int from) {
            int sign = byteAt(from);
            boolean withEqual = (sign == '<' || sign == '>') && byteAt(from + 1) == '=';
            int kind = SIGNS.indexOf((char) sign) >= 0 ? sign : TOKEN_UNKNOWN;
            addToken(withEqual ? sign + WITH_EQUAL : kind, from, 0);
            return withEqual ? from + 2 : from + 1;
        }

        /** Comes to the next TOKEN; behind the end there is the end. */
        private void step() {
            int next = Math.min(tokensRead, tokenCount - 1);
            if (next >= 0 && next < kinds.length) {
                token = kinds[next];
                place = places[next];
                value = values[next];
                tokensRead++;
            }
        }

        private boolean expect(int wanted) {
            if (token != wanted) {
                return fail(FAULT_PLACE);
            }
            step();
            return true;
        }

        private boolean readClause() {
            int kind = token;
            if (kind < 0 || kind > WORD_DAY) {
                return fail(FAULT_PLACE);
            }
            if (script.hasLaw(kind)) {
                return fail(FAULT_TWICE);
            }
            if (script.isFull()) {
                return fail(FAULT_CLAUSES);
            }
            script.addClause(kind);
            step();
            return (kind < LAWS ? readLaw(kind) : readDeed(kind)) && expect(';');
        }

        private boolean readLaw(int kind) {
            int from = script.length;
            law = kind;
            if (!readSum(0)) {
                return false;
            }
            script.addLaw(kind, from);
            return true;
        }

        private boolean readDeed(int kind) {
            switch (kind) {
                case WORD_ONE:
                    return readNumber(1, 0, MAX_TOUGH) && expect(WORD_AGE) && readNumber(2, 0, MAX_AGE);
                case WORD_SWEAR:
                    return readNumber(1, 0, MAX_PEOPLE - 1) && expect(WORD_TO)
                            && readNumber(2, 0, MAX_PEOPLE - 1) && readKnee() && readNumber(4, 1, MAX_SIZE);
                case WORD_BREAK:
                case WORD_RELEASE:
                    return readNumber(1, 0, MAX_OATHS - 1);
                case WORD_DAY:
                    return readNumber(1, 1, DAYS_AHEAD);
                default:
                    return readNumber(1, 0, MAX_PEOPLE - 1);
            }
        }

        private boolean readNumber(int cell, int least, int most) {
            if (token != TOKEN_NUMBER) {
                return fail(FAULT_PLACE);
            }
            if (!within(value, least, most)) {
                return fail(FAULT_NUMBER);
            }
            script.setClause(cell, value);
            step();
            return true;
        }

        private boolean readKnee() {
            if (token != WORD_LEFT && token != WORD_RIGHT) {
                return fail(FAULT_PLACE);
            }
            script.setClause(3, token == WORD_LEFT ? LEFT : RIGHT);
            step();
            return true;
        }

        /** Open is how many ( not just marks if - are open around it: beyond eight nothing is read. */
        private boolean readSum(int open) {
            if (!readProduct(open)) {
                return false;
            }
            for (int more = 0; more < MAX_BYTES && (token == '+' || token == '-'); more++) {
                int doing = token == '+' ? DO_ADD : DO_SUBTRACT;
                step();
                if (!readProduct(open)) {
                    return false;
                }
                script.add(doing, 0);
            }
            return true;
        }

        private boolean readProduct(int open) {
            if (!readOne(open)) {
                return false;
            }
            for (int more = 0; more < MAX_BYTES && (token == '*' || token == '/'); more++) {
                int doing = token == '*' ? DO_MULTIPLY : DO_DIVIDE;
                step();
                if (!readOne(open)) {
                    return false;
                }
                script.add(doing, 0);
            }
            return true;
        }

        private boolean readOne(int open) {
            int first = token;
            if (first == TOKEN_NUMBER) {
                return readPlainNumber();
            }
            if (first >= WORD_DAY && first <= WORD_BY) {
                return readName();
            }
            if (first != '(' && first != '-' && first != WORD_MARKS && first != WORD_IF) {
                return fail(FAULT_PLACE);
            }
            if (open >= MAX_OPEN) {
                return fail(FAULT_OPEN);
            }
            step();
            if (first == '(') {
                return readSum(open + 1) && expect(')');
            }
            if (first == WORD_IF) {
                return readChoice(open + 1);
            }
            if (!readOne(open + 1)) {
                return false;
            }
            script.add(first == '-' ? DO_NEGATE : DO_MARKS, 0);
            return true;
        }

        private boolean readPlainNumber() {
            if (value > MAX_NUMBER) {
                return fail(FAULT_NUMBER);
            }
            script.add(DO_NUMBER, value);
            step();
            return true;
        }

        private boolean readName() {
            if (law == WORD_RISK && token >= WORD_SIZE) {
                return fail(FAULT_NAME);
            }
            script.add(DO_NAME, token);
            step();
            return true;
        }

        private boolean readChoice(int open) {
            if (!readEither(open) || !expect(WORD_THEN)) {
                return false;
            }
            int toElse = script.add(DO_UNLESS, 0);
            if (!readSum(open) || !expect(WORD_ELSE)) {
                return false;
            }
            int toEnd = script.add(DO_JUMP, 0);
            script.leadHere(toElse);
            if (!readSum(open) || !expect(WORD_END)) {
                return false;
            }
            script.leadHere(toEnd);
            return true;
        }

        private boolean readEither(int open) {
            if (!readBoth(open)) {
                return false;
            }
            for (int more = 0; more < MAX_BYTES && token == WORD_OR; more++) {
                step();
                if (!readBoth(open)) {
                    return false;
                }
                script.add(DO_OR, 0);
            }
            return true;
        }

        private boolean readBoth(int open) {
            if (!readAsk(open)) {
                return false;
            }
            for (int more = 0; more < MAX_BYTES && token == WORD_AND; more++) {
                step();
                if (!readAsk(open)) {
                    return false;
                }
                script.add(DO_AND, 0);
            }
            return true;
        }

        private boolean readAsk(int open) {
            if (token != WORD_NOT && token != WORD_JUST) {
                return readComparison(open);
            }
            if (open >= MAX_OPEN) {
                return fail(FAULT_OPEN);
            }
            boolean isJust = token == WORD_JUST;
            step();
            if (isJust) {
                return readJust(open + 1);
            }
            if (!readAsk(open + 1)) {
                return false;
            }
            script.add(DO_NOT, 0);
            return true;
        }

        private boolean readJust(int open) {
            if (!expect('(') || !readEither(open)) {
                return false;
            }
            int asked = 1;
            for (; asked < MAX_JUST && token == ','; asked++) {
                step();
                if (!readEither(open)) {
                    return false;
                }
            }
            if (token == ',') {
                return fail(FAULT_JUST);
            }
            script.add(DO_JUST, asked);
            return expect(')');
        }

        private boolean readComparison(int open) {
            if (!readSum(open)) {
                return false;
            }
            int doing = comparing(token);
            if (doing == NONE) {
                return fail(FAULT_PLACE);
            }
            step();
            if (!readSum(open)) {
                return false;
            }
            script.add(doing, 0);
            return true;
        }

        private static int comparing(int sign) {
            switch (sign) {
                case '<': return DO_LESS;
                case '<' + WITH_EQUAL: return DO_AT_MOST;
                case '>': return DO_MORE;
                case '>' + WITH_EQUAL: return DO_AT_LEAST;
                case '=': return DO_EQUAL;
                case '#': return DO_UNLIKE;
                default: return NONE;
            }
        }
    }

    /** Works out what the laws say: those of a TEXT, or without one those of the document. */
    private static final class Judge {
        private final World world;
        private final int[] stack = new int[MAX_BYTES];
        private int height;

        Judge(World world) {
            this.world = world;
        }

        /** By how much one kneeling wears an OATH, by the laws of a TEXT (NONE: without). */
        int wearOf(int text, Ledger ledger, int oath) {
            int one = ledger.get(oath, OATH_ON);
            Script script = world.script(text);
            if (script == null || !script.hasLaw(WORD_WEARS)) {
                return 10 - world.toughOf(one);
            }
            return Math.max(0, Math.min(MAX_LAW, work(script, WORD_WEARS, ledger, one, oath)));
        }

        /** How an OATH aches, as if it were broken. */
        int painOf(Ledger ledger, int oath) {
            Script script = world.script(world.ruling);
            if (script == null || !script.hasLaw(WORD_ACHES)) {
                return ledger.get(oath, OATH_SIZE) * ledger.rain / 10;
            }
            return Math.max(0, Math.min(MAX_LAW, work(script, WORD_ACHES, ledger, ledger.get(oath, OATH_ON), oath)));
        }

        /** The bounds of risk hold without a law too: the document tells them ahead of both. */
        int riskOf(Ledger ledger, int one) {
            Script script = world.script(world.ruling);
            int risk = script == null || !script.hasLaw(WORD_RISK)
                    ? ledger.marks(one) * 10 - world.toughOf(one)
                    : work(script, WORD_RISK, ledger, one, NONE);
            return Math.max(0, Math.min(MAX_RISK, risk));
        }

        int acheOf(Ledger ledger, int one) {
            int ache = 0;
            for (int oath = 0; oath < ledger.oathCount; oath++) {
                if (ledger.legibleOn(oath, one) && ledger.get(oath, OATH_STATE) == BROKEN) {
                    ache += painOf(ledger, oath);
                }
            }
            return ache;
        }

        /** Whether all that was told of WEAR is so by a TEXT; OATHS taken back are aside. */
        boolean explains(int text) {
            for (int row = 0; row < world.wearings.count; row++) {
                int oath = world.wearings.get(row, 0);
                if (world.now.has(oath) && wearOf(text, world.now, oath) != world.wearings.get(row, 1)) {
                    return false;
                }
            }
            return true;
        }

        /** Jumps lead forth alone, so that no more is done than the law has rows. */
        private int work(Script script, int law, Ledger ledger, int one, int oath) {
            int at = script.lawStart(law);
            int stop = script.lawEnd(law);
            height = 0;
            for (int done = 0; done < MAX_BYTES && at < stop; done++) {
                int doing = script.doing(at);
                int number = script.number(at);
                at++;
                if (doing == DO_NUMBER) {
                    push(number);
                } else if (doing == DO_NAME) {
                    push(named(number, ledger, one, oath));
                } else if (doing == DO_MARKS) {
                    push(ledger.marks(pop()));
                } else if (doing == DO_JUMP || doing == DO_UNLESS && pop() == 0) {
                    at = number;
                } else if (doing >= DO_NEGATE) {
                    combine(doing, number);
                }
            }
            return pop();
        }

        /** What is beyond a million is a million, at each step. */
        private void push(long value) {
            if (height >= 0 && height < stack.length) {
                long atMost = value > MAX_VALUE ? MAX_VALUE : value;
                stack[height] = (int) (atMost < -MAX_VALUE ? -MAX_VALUE : atMost);
                height++;
            }
        }

        private int pop() {
            if (height <= 0 || height > stack.length) {
                return 0;
            }
            height--;
            return stack[height];
        }

        private int named(int name, Ledger ledger, int one, int oath) {
            switch (name) {
                case WORD_DAY: return ledger.date;
                case WORD_RAIN: return ledger.rain;
                case WORD_TOUGH: return world.toughOf(one);
                case WORD_AGE: return world.ageOf(one);
                case WORD_WHO: return one;
                case WORD_SIZE: return ledger.get(oath, OATH_SIZE);
                case WORD_KNEE: return ledger.get(oath, OATH_KNEE);
                case WORD_WEAR: return ledger.get(oath, OATH_WEAR);
                case WORD_SINCE: return ledger.date - ledger.get(oath, OATH_DAY);
                case WORD_BY: return ledger.get(oath, OATH_BY);
                default: return 0;
            }
        }

        private void combine(int doing, int number) {
            if (doing == DO_NEGATE) {
                push(-pop());
            } else if (doing == DO_NOT) {
                push(1 - pop());
            } else if (doing == DO_JUST) {
                int so = 0;
                for (int i = 0; i < number; i++) {
                    so += pop();
                }
                push(so == 1 ? 1 : 0);
            } else {
                long right = pop();
                long left = pop();
                push(joined(doing, left, right));
            }
        }

        private static long joined(int doing, long left, long right) {
            switch (doing) {
                case DO_ADD: return left + right;
                case DO_SUBTRACT: return left - right;
                case DO_MULTIPLY: return left * right;
                case DO_DIVIDE: return right == 0 ? 0 : left / right;
                case DO_LESS: return left < right ? 1 : 0;
                case DO_AT_MOST: return left <= right ? 1 : 0;
                case DO_MORE: return left > right ? 1 : 0;
                case DO_AT_LEAST: return left >= right ? 1 : 0;
                case DO_EQUAL: return left == right ? 1 : 0;
                case DO_UNLIKE: return left != right ? 1 : 0;
                case DO_AND: return left & right;
                case DO_OR: return left | right;
                default: return 0;
            }
        }
    }

    /** All that is a STEP, by hand, by a TEXT or by YEARS. */
    private static final class Deeds {
        private final World world;
        private final Judge judge;
        private final Rings rings;
        private final int[] more = new int[MAX_OATHS];
        private boolean inYears;

        Deeds(World world, Judge judge, Rings rings) {
            this.world = world;
            this.judge = judge;
            this.rings = rings;
        }

        /** What is done in YEARS is no STEP of its own. */
        private void remember() {
            if (!inYears) {
                world.remember();
            }
        }

        int swearIn(int by, int on, int knee, int size) {
            if (!world.has(by) || !world.has(on) || by == on || world.now.oathCount >= MAX_OATHS
                    || !within(knee, LEFT, RIGHT) || !within(size, 1, MAX_SIZE)) {
                return NONE;
            }
            remember();
            return world.now.addOath(by, on, knee, size);
        }

        boolean breakOath(int oath) {
            if (world.now.get(oath, OATH_STATE) != KEPT) {
                return false;
            }
            remember();
            world.now.put(oath, OATH_STATE, BROKEN);
            return true;
        }

        boolean releaseOath(int oath) {
            if (!world.now.unreleased(oath)) {
                return false;
            }
            remember();
            world.now.put(oath, OATH_STATE, RELEASED);
            return true;
        }

        boolean kneelDown(int one) {
            if (!world.has(one)) {
                return false;
            }
            remember();
            wearDown(world.now, one);
            return true;
        }

        /** A law can ask for marks, so that all is worked out ahead of the first WEAR that changes. */
        void wearDown(Ledger ledger, int one) {
            int oaths = Math.min(ledger.oathCount, MAX_OATHS);
            for (int oath = 0; oath < oaths; oath++) {
                boolean wears = ledger.get(oath, OATH_ON) == one && ledger.unreleased(oath);
                more[oath] = wears ? judge.wearOf(world.ruling, ledger, oath) : 0;
            }
            for (int oath = 0; oath < oaths; oath++) {
                ledger.moreWear(oath, more[oath]);
            }
        }

        /** Released OATHS on that KNEE are worn too: the document leaves them out in kneeling alone. */
        boolean slide(int one, int knee) {
            if (!world.has(one) || !within(knee, LEFT, RIGHT)) {
                return false;
            }
            remember();
            for (int oath = 0; oath < world.now.oathCount; oath++) {
                if (world.now.get(oath, OATH_ON) == one && world.now.get(oath, OATH_KNEE) == knee) {
                    world.now.moreWear(oath, SKATED);
                }
            }
            return true;
        }

        int strikeOut(int oaths) {
            if (!rings.isRing(oaths)) {
                return NONE;
            }
            remember();
            Ledger now = world.now;
            int least = MAX_SIZE;
            for (int oath = 0; oath < now.oathCount; oath++) {
                if ((oaths >> oath & 1) != 0) {
                    least = Math.min(least, now.get(oath, OATH_SIZE));
                }
            }
            for (int oath = 0; oath < now.oathCount; oath++) {
                if ((oaths >> oath & 1) != 0) {
                    int left = now.get(oath, OATH_SIZE) - least;
                    now.put(oath, OATH_SIZE, left);
                    now.put(oath, OATH_STATE, left == 0 ? RELEASED : KEPT);
                }
            }
            return least;
        }

        boolean passDay() {
            Ledger now = world.now;
            if (!now.lastsOn()) {
                return false;
            }
            remember();
            for (int one = 0; one < world.people; one++) {
                int ache = judge.acheOf(now, one);
                if (ache > 0) {
                    now.write(one, ache);
                }
            }
            now.turnDay();
            return true;
        }

        /** Does one CLAUSE of a TEXT; a law is nothing to do. */
        boolean perform(Script script, int clause) {
            int first = script.clause(clause, 1);
            int second = script.clause(clause, 2);
            switch (script.clause(clause, CLAUSE_KIND)) {
                case WORD_ONE: return world.welcome(first, second) != NONE;
                case WORD_SWEAR: return swearIn(first, second, script.clause(clause, 3), script.clause(clause, 4)) != NONE;
                case WORD_BREAK: return breakOath(first);
                case WORD_RELEASE: return releaseOath(first);
                case WORD_KNEEL: return kneelDown(first);
                case WORD_SKATE: return slide(first, LEFT);
                case WORD_DAY:
                    for (int i = 0; i < first; i++) {
                        if (!passDay()) {
                            return false;
                        }
                    }
                    return true;
                default: return true;
            }
        }

        void beginYears(int seed) {
            remember();
            inYears = true;
            world.now.x = seed * 2 + FIRST_X;
        }

        void endYears() {
            inYears = false;
        }

        /** One draw of YEARS. */
        void liveOn() {
            int drawn = world.now.draw();
            int people = world.people;
            int oaths = world.now.oathCount;
            int one = people > 0 ? drawn % people : NONE;
            int oath = oaths > 0 ? drawn % oaths : NONE;
            switch (drawn % 7) {
                case 0:
                    swearIn(one, people > 0 ? drawn / 7 % people : NONE, drawn % 2, 1 + drawn % 9);
                    break;
                case 1:
                    breakOath(oath);
                    break;
                case 2:
                    if (drawn % 5 == 0) {
                        releaseOath(oath);
                    }
                    break;
                case 3:
                    kneelDown(one);
                    break;
                case 4:
                    if (drawn % 3 == 0) {
                        slide(one, drawn % 2);
                    }
                    break;
                default:
                    passDay();
                    break;
            }
        }
    }

    /** RINGS of kept, LEGIBLE OATHS on right KNEES. */
    private static final class Rings {
        private final World world;
        private int best;

        Rings(World world) {
            this.world = world;
        }

        private boolean mayBeIn(int oath) {
            Ledger now = world.now;
            return now.legible(oath) && now.get(oath, OATH_STATE) == KEPT && now.get(oath, OATH_KNEE) == RIGHT;
        }

        /** Goes round from the lowest of them, and must be at its beginning when none is left. */
        boolean isRing(int oaths) {
            if (oaths <= 0 || oaths >= 1 << world.now.oathCount) {
                return false;
            }
            int start = world.now.get(Integer.bitCount((oaths & -oaths) - 1), OATH_BY);
            int one = start;
            int met = 0;
            int left = oaths;
            for (int i = 0; i < MAX_OATHS && left != 0; i++) {
                int oath = sworn(left, one);
                if (oath == NONE || (met >> one & 1) != 0) {
                    return false;
                }
                met |= 1 << one;
                left &= ~(1 << oath);
                one = world.now.get(oath, OATH_ON);
            }
            return left == 0 && one == start;
        }

        private int sworn(int oaths, int by) {
            for (int oath = 0; oath < world.now.oathCount; oath++) {
                if ((oaths >> oath & 1) != 0 && world.now.get(oath, OATH_BY) == by && mayBeIn(oath)) {
                    return oath;
                }
            }
            return NONE;
        }

        int shortest() {
            best = 0;
            for (int start = 0; start < world.people; start++) {
                follow(start, start, 0, 0, 0);
            }
            return best;
        }

        /** Each ring is found once, from the lowest one in it. */
        private void follow(int start, int one, int met, int oaths, int depth) {
            if (depth >= MAX_PEOPLE) {
                return;
            }
            for (int oath = 0; oath < world.now.oathCount; oath++) {
                if (world.now.get(oath, OATH_BY) == one && mayBeIn(oath)) {
                    int next = world.now.get(oath, OATH_ON);
                    if (next == start) {
                        keepBetter(oaths | 1 << oath);
                    } else if (next > start && (met >> next & 1) == 0) {
                        follow(start, next, met | 1 << next, oaths | 1 << oath, depth + 1);
                    }
                }
            }
        }

        private void keepBetter(int oaths) {
            int fewer = Integer.bitCount(best) - Integer.bitCount(oaths);
            if (best == 0 || fewer > 0 || fewer == 0 && oaths < best) {
                best = oaths;
            }
        }
    }

    /** What comes, worked out on a copy. */
    private static final class Foresight {
        private final World world;
        private final Judge judge;
        private final Deeds deeds;
        private final Ledger scratch;

        Foresight(World world, Judge judge, Deeds deeds, Ledger scratch) {
            this.world = world;
            this.judge = judge;
            this.deeds = deeds;
            this.scratch = scratch;
        }

        int rainBehind(int days) {
            scratch.takeOver(world.now);
            for (int i = 0; i < days && scratch.lastsOn(); i++) {
                scratch.turnDay();
            }
            return scratch.rain;
        }

        int achesWithin(int days, int one) {
            scratch.takeOver(world.now);
            int ache = 0;
            for (int i = 0; i < days && scratch.lastsOn(); i++) {
                ache += judge.acheOf(scratch, one);
                scratch.turnDay();
            }
            return ache;
        }

        int daysToAche(int one) {
            scratch.takeOver(world.now);
            for (int days = 1; days <= DAYS_AHEAD && scratch.lastsOn(); days++) {
                if (judge.acheOf(scratch, one) > 0) {
                    return days;
                }
                scratch.turnDay();
            }
            return NONE;
        }

        /** NONE for a released OATH too; where no DAY can pass any more, no kneeling is ahead of one. */
        int daysToFade(int oath) {
            if (!world.now.unreleased(oath)) {
                return NONE;
            }
            int one = world.now.get(oath, OATH_ON);
            scratch.takeOver(world.now);
            for (int days = 0; days < DAYS_AHEAD && scratch.lastsOn() && scratch.legible(oath); days++) {
                deeds.wearDown(scratch, one);
                scratch.turnDay();
            }
            return scratch.legible(oath) ? NONE : scratch.date - world.now.date;
        }
    }

    /** BREACHES of one: which sets of its OATHS, were they broken, account for all that it FELT. */
    private static final class Suspicions {
        private final World world;
        private final Judge judge;
        private final Ledger scratch;
        private final int[] members = new int[MAX_OATHS];
        private final int[] heldBy = new int[MAX_OATHS];
        private final int[] pains = new int[MAX_FEELINGS * MAX_OATHS];
        private final int[] unexplained = new int[MAX_FEELINGS];
        private int memberCount;
        private int feelingCount;
        private int setCount;

        Suspicions(World world, Judge judge, Ledger scratch) {
            this.world = world;
            this.judge = judge;
            this.scratch = scratch;
        }

        /** From set to set one OATH alone comes or goes, so that each costs little. */
        void weigh(int one) {
            gatherMembers(one);
            gatherFeelings(one);
            setCount = 0;
            int set = 0;
            countSet(set);
            for (int i = 1; i < 1 << memberCount; i++) {
                int member = Integer.bitCount((i & -i) - 1);
                set ^= 1 << member;
                explain(member, (set >> member & 1) != 0 ? 1 : -1);
                countSet(set);
            }
        }

        private void gatherMembers(int one) {
            memberCount = 0;
            for (int oath = 0; oath < world.now.oathCount; oath++) {
                if (world.now.legibleOn(oath, one) && memberCount < MAX_OATHS) {
                    members[memberCount] = oath;
                    heldBy[memberCount] = 0;
                    memberCount++;
                }
            }
        }

        private void gatherFeelings(int one) {
            Told feelings = world.feelings;
            scratch.takeOver(world.now);
            feelingCount = 0;
            for (int row = 0; row < feelings.count; row++) {
                if (feelings.get(row, 0) == one && feelingCount < MAX_FEELINGS) {
                    scratch.rain = feelings.get(row, 1);
                    unexplained[feelingCount] = feelings.get(row, 2);
                    for (int member = 0; member < memberCount; member++) {
                        pains[feelingCount * MAX_OATHS + member] = judge.painOf(scratch, members[member]);
                    }
                    feelingCount++;
                }
            }
        }

        private void explain(int member, int sign) {
            for (int i = 0; i < feelingCount; i++) {
                unexplained[i] -= sign * pains[i * MAX_OATHS + member];
            }
        }

        private void countSet(int set) {
            for (int i = 0; i < feelingCount; i++) {
                if (unexplained[i] != 0) {
                    return;
                }
            }
            setCount++;
            for (int member = 0; member < memberCount; member++) {
                heldBy[member] += set >> member & 1;
            }
        }

        int sets() {
            return setCount;
        }

        int sureBroken() {
            return heldByJust(setCount);
        }

        int sureKept() {
            return heldByJust(0);
        }

        private int heldByJust(int sets) {
            int oaths = 0;
            for (int member = 0; member < memberCount; member++) {
                if (heldBy[member] == sets) {
                    oaths |= 1 << members[member];
                }
            }
            return oaths;
        }

        int chance(int oath, boolean low) {
            int upper = 0;
            for (int member = 0; member < memberCount; member++) {
                if (members[member] == oath) {
                    upper = heldBy[member];
                }
            }
            int measure = commonMeasure(upper, setCount);
            if (measure == 0) {
                return low ? 1 : 0;
            }
            return low ? setCount / measure : upper / measure;
        }

        private static int commonMeasure(int first, int second) {
            int left = first;
            int right = second;
            for (int i = 0; i < MAX_BYTES && right != 0; i++) {
                int rest = left % right;
                left = right;
                right = rest;
            }
            return left;
        }

        int mostTelling() {
            int best = NONE;
            int nearest = 0;
            for (int member = 0; member < memberCount; member++) {
                int distance = Math.abs(2 * heldBy[member] - setCount);
                boolean open = heldBy[member] > 0 && heldBy[member] < setCount;
                if (open && (best == NONE || distance < nearest)) {
                    best = members[member];
                    nearest = distance;
                }
            }
            return best;
        }
    }

    /** Sums over OATHS, and searches for the fewest or the most; sets go upwards, so that of like ones the lowest is found. */
    private static final class Choices {
        private final World world;
        private final int[] pairs = new int[MAX_TOLD];
        private final int[] knowledge = new int[MAX_PEOPLE];

        Choices(World world) {
            this.world = world;
        }

        int net(int one) {
            Ledger now = world.now;
            int net = 0;
            for (int oath = 0; oath < now.oathCount; oath++) {
                if (now.get(oath, OATH_STATE) == KEPT && now.get(oath, OATH_KNEE) == RIGHT) {
                    net += now.get(oath, OATH_ON) == one ? now.get(oath, OATH_SIZE) : 0;
                    net -= now.get(oath, OATH_BY) == one ? now.get(oath, OATH_SIZE) : 0;
                }
            }
            return net;
        }

        int fewestReleased() {
            int pairCount = gatherClashes();
            int oaths = 0;
            for (int i = 0; i < pairCount; i++) {
                oaths |= pairs[i];
            }
            int best = oaths;
            for (int set = 0; set < oaths; set++) {
                if ((set & ~oaths) == 0 && Integer.bitCount(set) < Integer.bitCount(best) && partsClashes(set, pairCount)) {
                    best = set;
                }
            }
            return best;
        }

        /** Those of kept OATHS; such as were taken back are aside. */
        private int gatherClashes() {
            int count = 0;
            for (int row = 0; row < world.clashes.count && row < MAX_TOLD; row++) {
                int one = world.clashes.get(row, 0);
                int other = world.clashes.get(row, 1);
                if (world.now.get(one, OATH_STATE) == KEPT && world.now.get(other, OATH_STATE) == KEPT) {
                    pairs[count] = 1 << one | 1 << other;
                    count++;
                }
            }
            return count;
        }

        private boolean partsClashes(int set, int pairCount) {
            for (int i = 0; i < pairCount; i++) {
                if ((set & pairs[i]) == 0) {
                    return false;
                }
            }
            return true;
        }

        int mostInTime() {
            int best = 0;
            for (int set = 1; set < 1 << world.words.count; set++) {
                if (Integer.bitCount(set) > Integer.bitCount(best) && isInTime(set)) {
                    best = set;
                }
            }
            return best;
        }

        /** The earliest due first: all that is due by then must be done by then. */
        private boolean isInTime(int set) {
            for (int row = 0; row < world.words.count; row++) {
                int due = world.words.get(row, 1);
                if ((set >> row & 1) != 0 && workOf(set, due) > due) {
                    return false;
                }
            }
            return true;
        }

        /** The DAYS that those of the set take that are due in so many DAYS at most. */
        int workOf(int set, int due) {
            int work = 0;
            for (int row = 0; row < world.words.count; row++) {
                if ((set >> row & 1) != 0 && world.words.get(row, 1) <= due) {
                    work += world.words.get(row, 0);
                }
            }
            return work;
        }

        int fewestAsked() {
            int best = (1 << world.people) - 1;
            for (int set = 0; set < 1 << world.people; set++) {
                if (Integer.bitCount(set) < Integer.bitCount(best) && seesAll(set)) {
                    best = set;
                }
            }
            return best;
        }

        private boolean seesAll(int people) {
            Ledger now = world.now;
            for (int oath = 0; oath < now.oathCount; oath++) {
                int pair = 1 << now.get(oath, OATH_BY) | 1 << now.get(oath, OATH_ON);
                if (now.legible(oath) && (people & pair) == 0) {
                    return false;
                }
            }
            return true;
        }

        /** WORDS KNOWN by one. */
        int wordsOf(int one) {
            Ledger now = world.now;
            int seen = 1 << one;
            for (int row = 0; row < world.sights.count; row++) {
                if (world.sights.get(row, 0) == one) {
                    seen |= 1 << world.sights.get(row, 1);
                }
            }
            int oaths = 0;
            for (int oath = 0; oath < now.oathCount; oath++) {
                boolean known = (seen >> now.get(oath, OATH_ON) & 1) != 0 || now.get(oath, OATH_BY) == one;
                if (known && now.legible(oath)) {
                    oaths |= 1 << oath;
                }
            }
            return oaths;
        }

        int fewestKnowing() {
            int all = 0;
            for (int one = 0; one < world.people && one < MAX_PEOPLE; one++) {
                knowledge[one] = wordsOf(one);
                all |= knowledge[one];
            }
            int best = (1 << world.people) - 1;
            for (int set = 0; set < 1 << world.people; set++) {
                if (Integer.bitCount(set) < Integer.bitCount(best) && knownTo(set) == all) {
                    best = set;
                }
            }
            return best;
        }

        private int knownTo(int people) {
            int oaths = 0;
            for (int one = 0; one < MAX_PEOPLE; one++) {
                oaths |= (people >> one & 1) != 0 ? knowledge[one] : 0;
            }
            return oaths;
        }

        int mostOften() {
            int best = NONE;
            int most = 0;
            for (int one = 0; one < world.people; one++) {
                int sworn = legibleBy(one);
                if (sworn > most) {
                    best = one;
                    most = sworn;
                }
            }
            return best;
        }

        private int legibleBy(int one) {
            int sworn = 0;
            for (int oath = 0; oath < world.now.oathCount; oath++) {
                if (world.now.get(oath, OATH_BY) == one && world.now.legible(oath)) {
                    sworn++;
                }
            }
            return sworn;
        }

        int unbroken() {
            int people = (1 << world.people) - 1;
            for (int oath = 0; oath < world.now.oathCount; oath++) {
                if (world.now.get(oath, OATH_STATE) == BROKEN) {
                    people &= ~(1 << world.now.get(oath, OATH_BY));
                }
            }
            return people;
        }
    }
}
