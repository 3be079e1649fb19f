/** Promises 1 to 31, sentence by sentence, at their edges; RefusedCallsTest has what a refused call leaves as it was. */
public final class BoundaryPromisesTest {
    private static final int MIN = Integer.MIN_VALUE;
    private static final int MAX = Integer.MAX_VALUE;
    private static final int BLANKS = 0x20202020;
    private static final Check check = new Check();

    public static void main(String[] args) {
        newObject();
        will();
        feed();
        feedOrder();
        schemeBytes();
        schemeRefusals();
        fault();
        where();
        clause();
        clauses();
        person();
        means();
        dies();
        fact();
        may();
        bars();
        order();
        list();
        next();
        room();
        trustee();
        away();
        fill();
        leave();
        roomOf();
        had();
        land();
        dole();
        pass();
        owed();
        got();
        count();
        rentsInAll();
        trouble();
        check.end("BoundaryPromisesTest");
    }

    private static void due(String call, long got, long want) {
        check.due(call, got, want);
    }

    private static void newObject() {
        check.says("1", "No WILLS; TODAY is 0, the CHEST empty.");
        AlmsHouse x = new AlmsHouse();
        int[] counts = {0, 0, 0, 0, 0, 0, -1, 0, 0, 0, 0, 0};
        for (int what = 0; what < counts.length; what++) {
            due("count(" + what + ")", x.count(what), counts[what]);
        }
        due("trouble()", x.trouble(), 0);
        due("fault()", x.fault(), 0);
        due("where()", x.where(), -1);
        due("no will", x.clauses(0, 0), -1);
        due("no person", x.owed(0), -1);
        due("no room", x.roomOf(0, 0), -1);
        due("no day is past", x.had(0, 0), -1);
        x.will();
        x.pass(1);
        due("another's wills", new AlmsHouse().count(0), 0);
        due("another's day", new AlmsHouse().count(7), 0);
        check.says("The constants", "`NONE = -1`: There is none; refused.");
        due("NONE", AlmsHouse.NONE, -1);
    }

    private static void will() {
        check.says("2", "A WILL without CLAUSES: its number. NONE: 3.");
        AlmsHouse x = new AlmsHouse();
        for (int i = 0; i < 4; i++) {
            check.due("will()", x.will(), i, x, 0);
            due("clauses on the first day", x.clauses(i, 0), 0);
            due("clauses on the last day", x.clauses(i, 40000), 0);
        }
        check.due("a fifth", x.will(), -1, x, 3);
        check.due("again", x.will(), -1, x, 3);
    }

    // ---- the tape and schemes

    private static void feed() {
        check.says("3", "how many it has; NONE, and none comes, if there would be more than 300");
        AlmsHouse x = Check.withWills(1);
        x.feed(Check.four("stri", 0), Check.four("ke 1", 0), BLANKS, BLANKS, BLANKS);
        for (int i = 2; i <= 15; i++) {
            due("feed", x.feed(BLANKS, BLANKS, BLANKS, BLANKS, BLANKS), 20 * i);
        }
        due("a 16th", x.feed(0, MIN, MAX, -1, 1), -1);
        due("again", x.feed(0, MIN, MAX, -1, 1), -1);
        due("count(11)", x.count(11), 300);
        due("none came", x.scheme(0, 0, 300), 0);
        due("count(11) then", x.count(11), 0);
        due("from the start again", x.feed(0, 0, 0, 0, 0), 20);
    }

    /** One bad byte among blanks: its place tells where each of the twenty came to stand. */
    private static void feedOrder() {
        check.says("3", "Twenty bytes come behind THE TAPE, of each number the highest first");
        int[] bytes = {0, 31, '#', 127, 128, 255};
        for (int place = 0; place < 300; place++) {
            int bad = bytes[place % bytes.length];
            AlmsHouse x = Check.withWills(1);
            for (int at = 0; at < 300; at += 20) {
                int[] f = {BLANKS, BLANKS, BLANKS, BLANKS, BLANKS};
                if (place >= at && place < at + 20) {
                    int shift = 24 - (place - at) % 4 * 8;
                    f[(place - at) / 4] = BLANKS & ~(255 << shift) | bad << shift;
                }
                x.feed(f[0], f[1], f[2], f[3], f[4]);
            }
            x.scheme(0, 0, 300);
            due("where() of byte " + bad + " at " + place, x.where(), place);
        }
    }

    private static void schemeBytes() {
        check.says("4", "The first n bytes of THE TAPE (it is empty then) are a SCHEME of a WILL from a DAY on: "
                + "its number.");
        AlmsHouse x = Check.withWills(1);
        Check.feed(x, "strike 12");
        check.due("n of fewer", x.scheme(0, 0, 8), 0, x, 0);
        due("it is empty", x.count(11), 0);
        Check.feed(x, "strike 1" + " ".repeat(12));
        check.due("n of all", x.scheme(0, 0, 20), 1, x, 0);
        due("it is empty", x.count(11), 0);
        Check.feed(x, "strike 1#");
        check.due("n ahead of what is bad", x.scheme(0, 0, 8), 2, x, 0);
        Check.feed(x, "strike 1#");
        check.due("n with what is bad", x.scheme(0, 0, 9), -1, x, 4);
        due("it is empty", x.count(11), 0);
        Check.feed(x, "strike 1");
        check.due("n of 0", x.scheme(0, 0, 0), -1, x, 4);
        due("it is empty", x.count(11), 0);
        check.due("n of 0 of none", x.scheme(0, 0, 0), -1, x, 4);
        check.due("n of 1 of none", x.scheme(0, 0, 1), -1, x, 2);
        check.due("its number, behind faults", Check.scheme(x, 0, 40000, "strike 1"), 3, x, 0);
        due("count(1)", x.count(1), 4);
        // What n cuts through is what stands ahead of the cut.
        x.person(0, 0, true);
        Check.feed(x, "order kinless");
        check.due("n within a word", x.scheme(0, 0, 9), 4, x, 0);
        due("n within a word: order", x.order(0, 0, 0), 1);
        Check.feed(x, "order 7654321");
        check.due("n within a number", x.scheme(0, 0, 10), 5, x, 0);
        due("n within a number: order", x.order(0, 0, 0), 7654);
    }

    private static void schemeRefusals() {
        check.says("4", "NONE: 1, 2 (both leave THE TAPE); 4; 3.");
        AlmsHouse x = Check.withWills(1);
        Check.feed(x, "strike 13");
        int[] wills = {MIN, -1, 1, 4, MAX};
        for (int will : wills) {
            check.due("will " + will, x.scheme(will, 0, 9), -1, x, 1);
            check.due("will " + will + " and a number", x.scheme(will, -1, 21), -1, x, 1);
        }
        int[] days = {MIN, -1, 40001, MAX};
        for (int day : days) {
            check.due("day " + day, x.scheme(0, day, 9), -1, x, 2);
        }
        int[] lengths = {MIN, -1, 21, 300, 301, MAX};
        for (int n : lengths) {
            check.due("n of " + n, x.scheme(0, 0, n), -1, x, 2);
        }
        due("the tape is left", x.count(11), 20);
        check.due("and what stands on it", x.scheme(0, 0, 8), 0, x, 0);
        for (int i = 1; i < 40; i++) {
            Check.scheme(x, 0, 0, "strike 1");
        }
        Check.feed(x, "strike 1");
        check.due("1 ahead of 3", x.scheme(1, 0, 8), -1, x, 1);
        check.due("2 ahead of 3", x.scheme(0, 0, 21), -1, x, 2);
        due("the tape is left", x.count(11), 20);
        check.due("3", x.scheme(0, 0, 8), -1, x, 3);
        due("3 empties the tape", x.count(11), 0);
        check.due("4 ahead of 3", Check.scheme(x, 0, 0, "strike"), -1, x, 4);
        due("4 empties the tape", x.count(11), 0);
    }

    private static void fault() {
        check.says("5", "The FAULT of the latest scheme() not refused by 1, 2; 0 without one.");
        AlmsHouse x = new AlmsHouse();
        due("of none", x.fault(), 0);
        x.scheme(0, 0, 0);
        due("of one refused by 1 alone", x.fault(), 0);
        x.will();
        x.scheme(0, -1, 0);
        due("of one refused by 2 alone", x.fault(), 0);
        String[] texts = {"strike", "put 1 foo", "strike 0", "order 1+1+1+1+1"};
        for (int i = 0; i < texts.length; i++) {
            Check.scheme(x, 0, 0, texts[i]);
            due("of " + texts[i], x.fault(), i + 1);
            x.scheme(9, 0, 0);
            due("behind one refused by 1", x.fault(), i + 1);
            x.scheme(0, 0, 1);
            due("behind one refused by 2", x.fault(), i + 1);
            x.trustee();
            due("behind another call", x.fault(), i + 1);
        }
        Check.scheme(x, 0, 0, "strike 1");
        due("without one", x.fault(), 0);
        for (int i = 1; i < 40; i++) {
            Check.scheme(x, 0, 0, "strike 1");
        }
        Check.scheme(x, 0, 0, "strike 0");
        due("with one", x.fault(), 3);
        Check.scheme(x, 0, 0, "strike 1");
        due("of one refused by 3", x.fault(), 0);
    }

    private static void where() {
        check.says("6", "Its place, if the latest call that may be refused was by 4; NONE else.");
        AlmsHouse x = new AlmsHouse();
        due("without a call", x.where(), -1);
        x.will();
        due("not refused", x.where(), -1);
        Check.scheme(x, 0, 0, "strike 0");
        due("by 4", x.where(), 7);
        due("again", x.where(), 7);
        x.scheme(0, 0, 0);
        due("by 4 at the first place", x.where(), 0);
        x.scheme(1, 0, 0);
        due("by 1", x.where(), -1);
        Check.scheme(x, 0, 0, "strike 0");
        x.scheme(0, 0, 1);
        due("by 2", x.where(), -1);
        Check.scheme(x, 0, 0, "strike 0");
        x.clauses(7, 7);
        x.count(99);
        x.owed(0);
        x.fault();
        x.trouble();
        due("behind questions", x.where(), 7);
        x.pass(1);
        due("behind a call that wasn't refused", x.where(), -1);
        Check.scheme(x, 0, 0, "strike 0");
        x.pass(0);
        due("behind a call refused by 2", x.where(), -1);
        Check.scheme(x, 0, 0, "strike 0");
        Check.scheme(x, 0, 0, "strike 1");
        due("of a good text", x.where(), -1);
        for (int i = 1; i < 40; i++) {
            Check.scheme(x, 0, 0, "strike 1");
        }
        Check.scheme(x, 0, 0, "strike 0");
        Check.scheme(x, 0, 0, "strike 1");
        due("by 3", x.where(), -1);
    }

    private static void clause() {
        check.says("7", "Which SCHEME put the CLAUSE of a number that a WILL has on a DAY; -2 if it has none; "
                + "NONE for others.");
        AlmsHouse x = Check.withWills(2);
        Check.scheme(x, 1, 5, "strike 1");
        Check.scheme(x, 1, 5, "put 1 kin=1;put 12 kin=1");
        due("the day ahead", x.clause(1, 1, 4), -2);
        due("its day", x.clause(1, 1, 5), 1);
        due("number 12", x.clause(1, 12, 5), 1);
        due("number 2", x.clause(1, 2, 5), -2);
        due("of another will", x.clause(0, 1, 5), -2);
        due("day 0", x.clause(1, 1, 0), -2);
        due("day 40,000", x.clause(1, 1, 40000), 1);
        int[][] others = {{2, 1, 5}, {-1, 1, 5}, {MIN, 1, 5}, {MAX, 1, 5}, {1, 0, 5}, {1, 13, 5}, {1, MIN, 5}, {1, MAX, 5},
            {1, 1, -1}, {1, 1, 40001}, {1, 1, MIN}, {1, 1, MAX}};
        for (int[] of : others) {
            due("clause(" + of[0] + ", " + of[1] + ", " + of[2] + ")", x.clause(of[0], of[1], of[2]), -1);
        }
    }

    private static void clauses() {
        check.says("8", "How many CLAUSES a WILL has on a DAY; NONE.");
        AlmsHouse x = Check.withWills(1);
        due("none", x.clauses(0, 0), 0);
        for (int number = 1; number <= 12; number++) {
            Check.scheme(x, 0, number, "put " + number + " kin=1");
        }
        Check.scheme(x, 0, 13, "put 12 kin=0;strike 1;order age");
        for (int day = 0; day <= 12; day++) {
            due("clauses on day " + day, x.clauses(0, day), day);
        }
        due("one struck, one put again", x.clauses(0, 13), 11);
        due("day 40,000", x.clauses(0, 40000), 11);
        int[][] others = {{1, 5}, {-1, 5}, {MIN, 5}, {MAX, 5}, {0, -1}, {0, 40001}, {0, MIN}, {0, MAX}};
        for (int[] of : others) {
            due("clauses(" + of[0] + ", " + of[1] + ")", x.clauses(of[0], of[1]), -1);
        }
    }

    // ---- people

    private static void person() {
        check.says("9", "A PERSON: its number. NONE: 2; 3.");
        AlmsHouse x = new AlmsHouse();
        for (int i = 0; i < 40; i++) {
            check.due("person", x.person(-40000, 0, true), i, x, 0);
        }
        check.due("3", x.person(0, 0, true), -1, x, 3);
        check.due("2 ahead of 3, by birth", x.person(-40001, 0, true), -1, x, 2);
        check.due("2 ahead of 3, by coming", x.person(0, 1, true), -1, x, 2);
    }

    private static void means() {
        check.says("10", "MEANS of a PERSON from a DAY on (0 .. 40,000): how many are told. NONE: 1; 2; 3.");
        AlmsHouse x = new AlmsHouse();
        check.due("1 of none", x.means(0, 0, 0), -1, x, 1);
        x.person(0, 0, false);
        int[] people = {MIN, -1, 1, 40, MAX};
        for (int person : people) {
            check.due("person " + person, x.means(person, 0, 0), -1, x, 1);
            check.due("1 ahead of 2, person " + person, x.means(person, -1, 10000), -1, x, 1);
        }
        int[] days = {MIN, -1, 40001, MAX};
        for (int day : days) {
            check.due("day " + day, x.means(0, day, 0), -1, x, 2);
        }
        int[] values = {MIN, -1, 10000, MAX};
        for (int v : values) {
            check.due("v of " + v, x.means(0, 0, v), -1, x, 2);
        }
        check.due("none was told", x.means(0, 0, 0), 1, x, 0);
        check.due("day 40,000 and 9,999", x.means(0, 40000, 9999), 2, x, 0);
        for (int i = 3; i <= 6; i++) {
            check.due("how many are told", x.means(0, 0, i), i, x, 0);
        }
        check.due("3", x.means(0, 0, 0), -1, x, 3);
        check.due("2 ahead of 3, by day", x.means(0, 40001, 0), -1, x, 2);
        check.due("2 ahead of 3, by v", x.means(0, 0, 10000), -1, x, 2);
    }

    private static void dies() {
        check.says("11", "A PERSON is DEAD from TODAY on; its ROOM is empty, nothing is OWED to it any more: "
                + "true; false: 1; 5.");
        AlmsHouse x = Check.open(1, 2);
        x.person(0, 0, false);
        x.person(0, 0, false);
        x.fill(0);
        x.fill(1);
        x.pass(7);
        int[] people = {MIN, -1, 2, 40, MAX};
        for (int person : people) {
            check.due("person " + person, x.dies(person) ? 1 : 0, 0, x, 1);
        }
        due("owed ahead", x.owed(1), 10);
        check.due("dies", x.dies(1) ? 1 : 0, 1, x, 0);
        due("the day ahead", x.may(1, 0, 6), 1);
        due("today", x.may(1, 0, 7), 0);
        due("its room", x.roomOf(1, 1), -2);
        due("since", x.roomOf(1, 2), -2);
        due("nothing is owed", x.owed(1), 0);
        due("the other's room", x.roomOf(0, 1), 0);
        due("what is owed to the other", x.owed(0), 10);
        check.due("again", x.dies(1) ? 1 : 0, 0, x, 5);
        x.pass(7);
        check.due("again on another day", x.dies(1) ? 1 : 0, 0, x, 5);
        due("dead since the first time", x.may(1, 0, 6), 1);
        due("nothing is owed any more", x.owed(1), 0);
        x.person(0, 0, false);
        check.due("without a room", x.dies(2) ? 1 : 0, 1, x, 0);
        due("rooms stay", x.count(4), 1);
    }

    private static void fact() {
        check.says("12", "Of a PERSON on a DAY what 0 age, 1 years, 2 means, 3 kin, 4 waits; NONE.");
        AlmsHouse x = new AlmsHouse();
        due("nobody", x.fact(0, 0, 0), -1);
        x.person(-800, -400, true);
        x.means(0, 0, 8);
        int[] due = {-1, 2, 1, 8, 1, 3, -1};
        for (int what = -1; what <= 5; what++) {
            due("fact(0, 3, " + what + ")", x.fact(0, 3, what), due[what + 1]);
        }
        int[][] others = {{1, 0, 0}, {-1, 0, 0}, {MIN, 0, 0}, {MAX, 0, 0}, {0, -1, 3}, {0, 40001, 3}, {0, MIN, 3}, {0, MAX, 3},
            {0, 0, MIN}, {0, 0, MAX}};
        for (int[] of : others) {
            due("fact(" + of[0] + ", " + of[1] + ", " + of[2] + ")", x.fact(of[0], of[1], of[2]), -1);
        }
        due("day 0", x.fact(0, 0, 3), 1);
        due("day 40,000", x.fact(0, 40000, 3), 1);
    }

    private static final int[][] OTHERS = {{1, 0, 0}, {-1, 0, 0}, {MIN, 0, 0}, {MAX, 0, 0}, {0, 1, 0}, {0, -1, 0}, {0, MIN, 0},
        {0, MAX, 0}, {0, 0, -1}, {0, 0, 40001}, {0, 0, MIN}, {0, 0, MAX}};

    private static void may() {
        check.says("13", "Whether a PERSON MAY come under a WILL on a DAY: 1, 0; NONE.");
        AlmsHouse x = Check.open(0, 0);
        due("nobody", x.may(0, 0, 0), -1);
        x.person(0, 0, false);
        for (int[] of : OTHERS) {
            due("may(" + of[0] + ", " + of[1] + ", " + of[2] + ")", x.may(of[0], of[1], of[2]), -1);
        }
        due("day 0", x.may(0, 0, 0), 1);
        due("day 40,000", x.may(0, 0, 40000), 1);
        x.will();
        due("a will without clauses", x.may(0, 1, 0), 0);
    }

    private static void bars() {
        check.says("14", "The first CLAUSE of a WILL, by number, that doesn't hold for a PERSON on a DAY; -2 if "
                + "all do (or there are none); "
                + "NONE.");
        AlmsHouse x = Check.withWills(1);
        due("nobody", x.bars(0, 0, 0), -1);
        x.person(0, 0, false);
        due("there are none", x.bars(0, 0, 0), -2);
        for (int[] of : OTHERS) {
            due("bars(" + of[0] + ", " + of[1] + ", " + of[2] + ")", x.bars(of[0], of[1], of[2]), -1);
        }
        Check.scheme(x, 0, 1, "put 12 kin=1");
        Check.scheme(x, 0, 2, "put 11 kin=1");
        Check.scheme(x, 0, 3, "put 1 kin=1");
        Check.scheme(x, 0, 4, "put 1 kin=0");
        Check.scheme(x, 0, 5, "strike 11");
        Check.scheme(x, 0, 6, "put 12 kin=0");
        int[] due = {-2, 12, 11, 1, 11, 12, -2};
        for (int day = 0; day < due.length; day++) {
            due("bars on day " + day, x.bars(0, 0, day), due[day]);
        }
        due("bars on day 40,000", x.bars(0, 0, 40000), -2);
        x.pass(10);
        x.person(0, 0, true);
        due("ahead of asking the clauses are asked alone", x.bars(1, 0, 2), -2);
        due("though it may not come", x.may(1, 0, 2), 0);
        x.dies(0);
        due("of the dead likewise", x.bars(0, 0, 10), -2);
    }

    private static void order() {
        check.says("15", "ORDER of a PERSON under a WILL on a DAY; NONE for others (it is 0 at least).");
        AlmsHouse x = Check.withWills(1);
        due("nobody", x.order(0, 0, 0), -1);
        x.person(-40000, -40000, true);
        due("without an order", x.order(0, 0, 0), 0);
        for (int[] of : OTHERS) {
            due("order(" + of[0] + ", " + of[1] + ", " + of[2] + ")", x.order(of[0], of[1], of[2]), -1);
        }
        Check.scheme(x, 0, 0, "order 9999*waits+9999*waits+9999*waits+9999*waits");
        due("0", x.order(0, 0, 0), 0);
        due("the greatest of all", x.order(0, 0, 40000), 4 * 9999 * 40000);
        x.means(0, 0, 9999);
        Check.scheme(x, 0, 0, "order 9999*means+9999*means+9999*means+9999*means");
        due("the greatest by means", x.order(0, 0, 0), 4 * 9999 * 9999);
        Check.scheme(x, 0, 0, "order 9999+9999+9999+9999");
        due("the greatest without a name", x.order(0, 0, 0), 4 * 9999);
        Check.scheme(x, 0, 0, "order 0");
        due("of 0", x.order(0, 0, 0), 0);
    }

    private static final int[][] OTHER_WILLS = {{1, 0}, {-1, 0}, {MIN, 0}, {MAX, 0}, {0, -1}, {0, 40001}, {0, MIN}, {0, MAX}};

    private static void list() {
        check.says("16", "How many MAY come under a WILL on a DAY; NONE.");
        AlmsHouse x = Check.open(1, 1);
        due("none", x.list(0, 0), 0);
        for (int[] of : OTHER_WILLS) {
            due("list(" + of[0] + ", " + of[1] + ")", x.list(of[0], of[1]), -1);
        }
        for (int i = 1; i <= 40; i++) {
            x.person(0, 0, false);
            due("list", x.list(0, 0), i);
        }
        x.fill(0);
        due("with who has a room", x.list(0, 0), 40);
        due("day 40,000", x.list(0, 40000), 40);
        x.pass(1);
        x.dies(39);
        due("the day ahead of a death", x.list(0, 0), 40);
        due("its day", x.list(0, 1), 39);
        x.will();
        due("a will without clauses", x.list(1, 0), 0);
    }

    private static void next() {
        check.says("17", "NEXT of a WILL on a DAY; -2 if there is none; NONE.");
        AlmsHouse x = Check.open(1, 1);
        due("none", x.next(0, 0), -2);
        for (int[] of : OTHER_WILLS) {
            due("next(" + of[0] + ", " + of[1] + ")", x.next(of[0], of[1]), -1);
        }
        Check.scheme(x, 0, 0, "order means");
        for (int i = 0; i < 40; i++) {
            x.person(0, 0, false);
        }
        due("all as great", x.next(0, 0), 0);
        x.means(39, 1, 1);
        due("the day ahead", x.next(0, 0), 0);
        due("the last number", x.next(0, 1), 39);
        due("day 40,000", x.next(0, 40000), 39);
        x.pass(1);
        x.fill(0);
        due("a room today counts on any day", x.next(0, 40000), 0);
        x.will();
        due("a will without clauses", x.next(1, 0), -2);
    }

    // ---- rooms and trustees

    private static void room() {
        check.says("18", "A ROOM of a WILL: its number. NONE: 1; 3.");
        AlmsHouse x = new AlmsHouse();
        check.due("without wills", x.room(0), -1, x, 1);
        x.will();
        int[] wills = {MIN, -1, 1, 4, MAX};
        for (int will : wills) {
            check.due("will " + will, x.room(will), -1, x, 1);
        }
        for (int i = 0; i < 20; i++) {
            check.due("room", x.room(0), i, x, 0);
        }
        check.due("3", x.room(0), -1, x, 3);
        check.due("1 ahead of 3", x.room(1), -1, x, 1);
    }

    private static void trustee() {
        check.says("19", "A TRUSTEE: its number (the first one has the TURN). NONE: 3.");
        AlmsHouse x = new AlmsHouse();
        due("no turn", x.count(6), -1);
        for (int i = 0; i < 8; i++) {
            check.due("trustee", x.trustee(), i, x, 0);
            due("the first has the turn", x.count(6), 0);
        }
        check.due("3", x.trustee(), -1, x, 3);
        due("the turn then", x.count(6), 0);
    }

    private static void away() {
        check.says("20", "A TRUSTEE is AWAY, or no more: true; false (1).");
        AlmsHouse x = Check.open(0, 2);
        x.person(0, 0, false);
        x.person(0, 0, false);
        check.due("of none", x.away(0, true) ? 1 : 0, 0, x, 1);
        x.trustee();
        int[] trustees = {MIN, -1, 1, 8, MAX};
        for (int trustee : trustees) {
            check.due("trustee " + trustee, x.away(trustee, true) ? 1 : 0, 0, x, 1);
            check.due("trustee " + trustee + " no more", x.away(trustee, false) ? 1 : 0, 0, x, 1);
        }
        check.due("no more, though it wasn't", x.away(0, false) ? 1 : 0, 1, x, 0);
        due("it gives", x.fill(0), 0);
        check.due("away", x.away(0, true) ? 1 : 0, 1, x, 0);
        check.due("away twice", x.away(0, true) ? 1 : 0, 1, x, 0);
        due("it doesn't give", x.fill(1), -1);
        check.due("no more", x.away(0, false) ? 1 : 0, 1, x, 0);
        due("it gives again", x.fill(1), 1);
    }

    private static void fill() {
        check.says("21", "FILL of a ROOM: who has it. NONE: 1; 5; 6; 3.");
        AlmsHouse x = Check.open(0, 2);
        int[] rooms = {MIN, -1, 2, 20, MAX};
        for (int room : rooms) {
            check.due("room " + room, x.fill(room), -1, x, 1);
        }
        check.due("no trustee and no next", x.fill(0), -1, x, 6);
        x.person(0, 0, false);
        check.due("no trustee", x.fill(0), -1, x, 6);
        x.trustee();
        check.due("who has it", x.fill(0), 0, x, 0);
        check.due("no next", x.fill(1), -1, x, 6);
        check.due("5 ahead of 6, of no next", x.fill(0), -1, x, 5);
        x.away(0, true);
        check.due("5 ahead of 6, of no trustee", x.fill(0), -1, x, 5);
        x.away(0, false);
        for (int i = 1; i < 100; i++) {
            x.leave(0);
            check.due("stay " + i, x.fill(0), 0, x, 0);
        }
        check.due("6 ahead of 3, of no next", x.fill(1), -1, x, 6);
        check.due("5 ahead of 3", x.fill(0), -1, x, 5);
        check.due("1 ahead of 3", x.fill(2), -1, x, 1);
        x.person(0, 0, false);
        check.due("3", x.fill(1), -1, x, 3);
        x.away(0, true);
        check.due("6 ahead of 3, of no trustee", x.fill(1), -1, x, 6);
    }

    private static void leave() {
        check.says("22", "A ROOM is left, what was OWED to who had it is forgotten: who it was. NONE: 1; 6 (it is empty).");
        AlmsHouse x = Check.open(1, 2);
        int[] rooms = {MIN, -1, 2, 20, MAX};
        for (int room : rooms) {
            check.due("room " + room, x.leave(room), -1, x, 1);
        }
        check.due("never filled", x.leave(0), -1, x, 6);
        x.person(0, 0, false);
        x.person(0, 0, false);
        x.fill(1);
        x.fill(0);
        x.pass(7);
        check.due("who it was", x.leave(1), 0, x, 0);
        due("forgotten", x.owed(0), 0);
        due("the other's is not", x.owed(1), 10);
        check.due("left already", x.leave(1), -1, x, 6);
        x.dies(1);
        check.due("left by death", x.leave(0), -1, x, 6);
        due("who left may come again", x.fill(0), 0);
        x.pass(7);
        due("what was forgotten stays so", x.owed(0), 10);
    }

    private static void roomOf() {
        check.says("23", "Of a ROOM what 0 its WILL, 1 who has it (-2: nobody), 2 since which DAY (-2 if "
                + "nobody), 3 which TRUSTEE gave it last "
                + "(-2); NONE.");
        AlmsHouse x = Check.withWills(4);
        Check.scheme(x, 3, 0, "put 1 kin=0");
        due("no room", x.roomOf(0, 0), -1);
        x.room(3);
        roomIs(x, -1, 3, -2, -2, -2, -1);
        x.person(0, 0, false);
        x.trustee();
        x.trustee();
        x.fill(0);
        roomIs(x, -1, 3, 0, 0, 0, -1);
        x.pass(2);
        roomIs(x, -1, 3, 0, 0, 0, -1);
        x.leave(0);
        roomIs(x, -1, 3, -2, -2, 0, -1);
        x.fill(0);
        roomIs(x, -1, 3, 0, 2, 1, -1);
        x.dies(0);
        roomIs(x, -1, 3, -2, -2, 1, -1);
        int[][] others = {{1, 0}, {-1, 0}, {MIN, 0}, {MAX, 0}, {0, MIN}, {0, MAX}};
        for (int[] of : others) {
            due("roomOf(" + of[0] + ", " + of[1] + ")", x.roomOf(of[0], of[1]), -1);
        }
    }

    /** Room 0 from what -1 to what 4. */
    private static void roomIs(AlmsHouse x, int... due) {
        for (int what = -1; what <= 4; what++) {
            due("roomOf(0, " + what + ")", x.roomOf(0, what), due[what + 1]);
        }
    }

    private static void had() {
        check.says("24", "Who had a ROOM on a DAY that is past, at its end; -2; NONE.");
        AlmsHouse x = Check.open(1, 1);
        x.person(0, 0, false);
        x.person(0, 0, false);
        due("today", x.had(0, 0), -1);
        x.fill(0);
        due("today, filled", x.had(0, 0), -1);
        x.pass(3);
        due("the first day", x.had(0, 0), 0);
        due("yesterday", x.had(0, 2), 0);
        due("today", x.had(0, 3), -1);
        due("tomorrow", x.had(0, 4), -1);
        // Left and filled on one day: at its end it is the latter's.
        x.dies(0);
        x.fill(0);
        x.pass(1);
        due("the day ahead", x.had(0, 2), 0);
        due("at the end of the day", x.had(0, 3), 1);
        x.leave(0);
        x.pass(1);
        due("left", x.had(0, 4), -2);
        due("the day ahead of leaving", x.had(0, 3), 1);
        // Filled and left on one day: at its end it is nobody's.
        x.fill(0);
        x.leave(0);
        x.pass(1);
        due("filled and left", x.had(0, 5), -2);
        x.room(0);
        due("ahead of the room", x.had(1, 0), -2);
        int[][] others = {{2, 0}, {-1, 0}, {MIN, 0}, {MAX, 0}, {0, -1}, {0, 6}, {0, 40000}, {0, 40001}, {0, MIN}, {0, MAX}};
        for (int[] of : others) {
            due("had(" + of[0] + ", " + of[1] + ")", x.had(of[0], of[1]), -1);
        }
    }

    // ---- days and money

    private static void land() {
        check.says("25", "A LAND, with RENT, EACH, its first DAY (TODAY + 1 .. 40,000): its number. NONE: 2; 3.");
        AlmsHouse x = new AlmsHouse();
        x.pass(10);
        int[][] bad = {{-1, 1, 11}, {10000, 1, 11}, {MIN, 1, 11}, {MAX, 1, 11}, {1, 0, 11}, {1, -1, 11}, {1, 401, 11}, {1, MIN, 11},
            {1, MAX, 11}, {1, 1, 10}, {1, 1, 0}, {1, 1, -1}, {1, 1, 40001}, {1, 1, MIN}, {1, 1, MAX}};
        for (int[] of : bad) {
            check.due("land(" + of[0] + ", " + of[1] + ", " + of[2] + ")", x.land(of[0], of[1], of[2]), -1, x, 2);
        }
        int[][] good = {{0, 1, 11}, {9999, 400, 40000}, {0, 400, 11}, {9999, 1, 40000}};
        for (int i = 0; i < 10; i++) {
            int[] of = good[i % good.length];
            check.due("land(" + of[0] + ", " + of[1] + ", " + of[2] + ")", x.land(of[0], of[1], of[2]), i, x, 0);
        }
        check.due("3", x.land(1, 1, 11), -1, x, 3);
        for (int[] of : bad) {
            check.due("2 ahead of 3", x.land(of[0], of[1], of[2]), -1, x, 2);
        }
    }

    private static void dole() {
        check.says("26", "The DOLE becomes it: true; false (2).");
        AlmsHouse x = Check.open(1, 1);
        x.person(0, 0, false);
        x.fill(0);
        int[] bad = {MIN, -1, 1000, MAX};
        for (int v : bad) {
            check.due("dole(" + v + ")", x.dole(v) ? 1 : 0, 0, x, 2);
        }
        x.pass(7);
        due("it is 10 still", x.owed(0), 10);
        check.due("dole(0)", x.dole(0) ? 1 : 0, 1, x, 0);
        x.pass(7);
        due("it is 0", x.owed(0), 10);
        check.due("dole(999)", x.dole(999) ? 1 : 0, 1, x, 0);
        x.pass(7);
        due("it is 999", x.owed(0), 1009);
    }

    private static void pass() {
        check.says("27", "So many DAYS go (1 .. 400): TODAY. NONE: 2 (also beyond 40,000).");
        AlmsHouse x = new AlmsHouse();
        int[] bad = {MIN, -400, -1, 0, 401, 40000, MAX};
        for (int days : bad) {
            check.due("pass(" + days + ")", x.pass(days), -1, x, 2);
        }
        check.due("pass(1)", x.pass(1), 1, x, 0);
        for (int i = 0; i < 99; i++) {
            x.pass(400);
        }
        check.due("pass(397) to the last but two", x.pass(397), 39998, x, 0);
        check.due("pass(3)", x.pass(3), -1, x, 2);
        check.due("pass(400)", x.pass(400), -1, x, 2);
        due("count(7)", x.count(7), 39998);
        check.due("pass(2)", x.pass(2), 40000, x, 0);
        check.due("pass(1) from the last", x.pass(1), -1, x, 2);
        due("count(7)", x.count(7), 40000);
        due("no land from then on", x.land(1, 1, 40000), -1);
        due("who is born then", x.person(40000, 40000, false), 0);
    }

    private static void owed() {
        check.says("28", "What is OWED to a PERSON; NONE.");
        AlmsHouse x = Check.open(1, 1);
        int[] people = {MIN, -1, 1, 40, MAX};
        due("nobody", x.owed(0), -1);
        x.person(0, 0, false);
        for (int person : people) {
            due("owed(" + person + ")", x.owed(person), -1);
        }
        due("at first", x.owed(0), 0);
        x.fill(0);
        x.dole(999);
        for (int i = 0; i < 100; i++) {
            x.pass(400);
        }
        due("most of all", x.owed(0), 999 * (40000 / 7));
        due("and nothing got", x.got(0), 0);
    }

    private static void got() {
        check.says("29", "What a PERSON got of doles; NONE.");
        AlmsHouse x = Check.open(1, 1);
        int[] people = {MIN, -1, 1, 40, MAX};
        due("nobody", x.got(0), -1);
        x.person(0, 0, false);
        for (int person : people) {
            due("got(" + person + ")", x.got(person), -1);
        }
        due("at first", x.got(0), 0);
        x.fill(0);
        x.dole(999);
        x.land(9999, 1, 1);
        for (int i = 0; i < 100; i++) {
            x.pass(400);
        }
        due("most of all", x.got(0), 999 * (40000 / 7));
        due("nothing is owed", x.owed(0), 0);
        x.leave(0);
        due("who left keeps it", x.got(0), 999 * (40000 / 7));
        x.dies(0);
        due("and who died", x.got(0), 999 * (40000 / 7));
    }

    private static void count() {
        check.says("30", "0 WILLS, 1 SCHEMES, 2 PEOPLE, 3 ROOMS, 4 empty ones, 5 TRUSTEES");
        AlmsHouse x = Check.withWills(3);
        Check.scheme(x, 0, 0, "put 1 kin=0");
        Check.scheme(x, 0, 0, "put 1 kin=0;strike 2");
        for (int i = 0; i < 5; i++) {
            x.person(0, 0, false);
            x.trustee();
        }
        for (int i = 0; i < 7; i++) {
            x.room(0);
        }
        x.trustee();
        x.fill(6);
        x.fill(0);
        x.fill(3);
        x.leave(0);
        x.dies(2);
        x.land(40, 10, 10);
        x.land(7, 400, 14);
        x.pass(14);
        Check.feed(x, " ".repeat(40));
        int[] due = {3, 2, 5, 7, 6, 6, 3, 14, 27, 47, 2, 40};
        for (int what = 0; what < due.length; what++) {
            due("count(" + what + ")", x.count(what), due[what]);
        }
        check.says("30", "6 whose TURN it is (AWAY or not; NONE without any)");
        x.away(3, true);
        due("away", x.count(6), 3);
        due("without any", new AlmsHouse().count(6), -1);
        check.says("30", "11 bytes of THE TAPE. NONE for others.");
        int[] others = {MIN, -2, -1, 12, 13, MAX};
        for (int what : others) {
            due("count(" + what + ")", x.count(what), -1);
        }
    }

    private static void rentsInAll() {
        check.says("30", "9 RENTS that came in all (2,000,000,000 if it is more)");
        // Nine lands bring 1,999,959,984 in 22,224 days; so 40,015, 40,016 and 40,018 more.
        rentsAre(8003, 5, 1999999999);
        rentsAre(5002, 8, 2000000000);
        rentsAre(3638, 11, 2000000000);
        AlmsHouse x = new AlmsHouse();
        for (int i = 0; i < 10; i++) {
            x.land(9999, 1, 1);
        }
        for (int i = 1; i <= 100; i++) {
            x.pass(400);
            due("rents on day " + 400 * i, x.count(9), Math.min(400L * i * 99990, 2000000000L));
            due("the chest on day " + 400 * i, x.count(8), 1000000);
        }
    }

    /** Nine lands that bring 9,999 a day, and a tenth that brings its rent so many times, up to day 22,224. */
    private static void rentsAre(int rent, int times, int due) {
        AlmsHouse x = new AlmsHouse();
        for (int i = 0; i < 9; i++) {
            x.land(9999, 1, 1);
        }
        x.land(rent, 400, 22224 - (times - 1) * 400);
        for (int i = 0; i < 55; i++) {
            x.pass(400);
        }
        due("on day 22,000", x.count(9), 22000 * 89991 + rent * (times - 1));
        x.pass(224);
        due("on day 22,224, with " + times + " rents of " + rent, x.count(9), due);
        x.pass(1);
        due("on the day behind", x.count(9), 2000000000);
    }

    private static void trouble() {
        check.says("31", "TROUBLE.");
        AlmsHouse x = new AlmsHouse();
        due("at first", x.trouble(), 0);
        x.pass(0);
        due("2", x.trouble(), 2);
        due("asking leaves it", x.trouble(), 2);
        x.will();
        due("0", x.trouble(), 0);
    }
}
