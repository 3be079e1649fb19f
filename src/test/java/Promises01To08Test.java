/** A new object, wills, the tape, schemes, and the clauses that a will has on a day. */
public final class Promises01To08Test {
    private static final Check check = new Check();

    public static void main(String[] args) {
        newObject();
        will();
        feed();
        schemeRefusals();
        schemeCuts();
        schemeRoom();
        faultAndWhere();
        clauseInTime();
        clauseOfOneDay();
        clauseOfOthers();
        clauses();
        check.end("Promises01To08Test");
    }

    private static void newObject() {
        AlmsHouse x = new AlmsHouse();
        int[] due = {0, 0, 0, 0, 0, 0, -1, 0, 0, 0, 0, 0};
        for (int what = 0; what < due.length; what++) {
            check.due("1: count(" + what + ")", x.count(what), due[what]);
        }
        check.due("1: trouble()", x.trouble(), 0);
        check.due("1: fault()", x.fault(), 0);
        check.due("1: where()", x.where(), -1);
        check.due("1: clauses(0, 0)", x.clauses(0, 0), -1);
        check.due("1: NONE", AlmsHouse.NONE, -1);
        AlmsHouse y = new AlmsHouse();
        y.will();
        check.due("1: another's will", x.count(0), 0);
    }

    private static void will() {
        AlmsHouse x = new AlmsHouse();
        for (int i = 0; i < 4; i++) {
            check.due("2: will()", x.will(), i);
            check.due("2: trouble()", x.trouble(), 0);
            check.due("2: clauses", x.clauses(i, 0), 0);
        }
        check.due("2: a fifth will()", x.will(), -1);
        check.due("2: trouble of a fifth", x.trouble(), 3);
        check.due("2: count(0)", x.count(0), 4);
    }

    private static void feed() {
        AlmsHouse x = Check.withWills(1);
        // The bytes stand the highest first, numbers in their order.
        check.due("3: feed", x.feed(0x73747269, 0x6b652031, 0x20202020, 0x20202020, 0x20202020), 20);
        check.due("3: read as strike 1", x.scheme(0, 0, 20), 0);
        for (int i = 1; i <= 15; i++) {
            check.due("3: feed " + i, x.feed(0x80ff0001, -1, 0, 1, 2), 20 * i);
        }
        check.due("3: a sixteenth", x.feed(1, 2, 3, 4, 5), -1);
        check.due("3: count(11)", x.count(11), 300);
        check.due("3: feed has no trouble", x.trouble(), 0);
        check.due("3: bytes above 127", x.scheme(0, 0, 300), -1);
        check.due("3: fault", x.fault(), 1);
        check.due("3: where", x.where(), 0);
        check.due("3: feed after a scheme", x.feed(0, 0, 0, 0, 0), 20);
        check.due("3: feed leaves the trouble", x.trouble(), 4);
        String full = "put 1 age > 0" + " ".repeat(287);
        x.scheme(0, 0, 0);
        Check.feed(x, full);
        check.due("3: full tape", x.count(11), 300);
        x.feed(1, 2, 3, 4, 5);
        check.due("3: none came of the refused", x.scheme(0, 0, 300), 1);
    }

    private static void schemeRefusals() {
        AlmsHouse x = new AlmsHouse();
        Check.feed(x, "strike 1");
        schemeIs(x, 0, 0, 8, -1, 1);
        x.will();
        schemeIs(x, 1, 0, 8, -1, 1);
        schemeIs(x, -1, -1, 8, -1, 1);
        schemeIs(x, 0, -1, 8, -1, 2);
        schemeIs(x, 0, 40001, 8, -1, 2);
        schemeIs(x, 0, 0, -1, -1, 2);
        schemeIs(x, 0, 0, 21, -1, 2);
        schemeIs(x, 0, 0, Integer.MAX_VALUE, -1, 2);
        check.due("4: 1 and 2 leave the tape", x.count(11), 20);
        schemeIs(x, 0, 40000, 8, 0, 0);
        check.due("4: the tape is empty then", x.count(11), 0);
        Check.feed(x, "strike 1;strike 2;strike 3");
        schemeIs(x, 0, 0, 17, 1, 0);
        check.due("4: what stood behind goes too", x.count(11), 0);
        Check.feed(x, "strike");
        schemeIs(x, 0, 0, 20, -1, 4);
        check.due("4: a fault empties the tape", x.count(11), 0);
        check.due("4: count(1)", x.count(1), 2);
    }

    /** Only the first n bytes are the text, though a token stands across. */
    private static void schemeCuts() {
        AlmsHouse x = Check.withWills(1);
        x.person(0, 0, true);
        Check.feed(x, "put 12 kin = 1234");
        schemeIs(x, 0, 0, 14, 0, 0);
        check.due("4: cut in a number", x.bars(0, 0, 0), -2);
        Check.feed(x, "order kinless");
        schemeIs(x, 0, 0, 9, 1, 0);
        check.due("4: cut in a word", x.order(0, 0, 0), 1);
        Check.feed(x, "strike 12#");
        schemeIs(x, 0, 0, 9, 2, 0);
        check.due("4: cut ahead of a bad byte", x.clauses(0, 0), 0);
        Check.feed(x, "put 1 waits < 9");
        schemeIs(x, 0, 0, 14, -1, 4);
        check.due("6: the end is n", x.where(), 14);
    }

    private static void schemeIs(AlmsHouse x, int will, int day, int n, int due, int trouble) {
        String call = "4: scheme(" + will + ", " + day + ", " + n + ")";
        check.due(call, x.scheme(will, day, n), due);
        check.due(call + " trouble", x.trouble(), trouble);
    }

    private static void schemeRoom() {
        AlmsHouse x = Check.withWills(2);
        for (int i = 0; i < 40; i++) {
            check.due("4: scheme " + i, Check.scheme(x, i % 2, i, "put 1 age > 0"), i);
        }
        check.due("4: 41st with a fault", Check.scheme(x, 0, 0, "put"), -1);
        check.due("4: a fault goes ahead of no room", x.trouble(), 4);
        Check.feed(x, "put 2 age > 0");
        check.due("4: 41st", x.scheme(0, 0, 13), -1);
        check.due("4: trouble of the 41st", x.trouble(), 3);
        check.due("5: no fault in the 41st", x.fault(), 0);
        check.due("6: where in the 41st", x.where(), -1);
        check.due("4: tape of the 41st", x.count(11), 0);
        check.due("4: nothing changed", x.clauses(0, 40000), 1);
        check.due("4: count(1)", x.count(1), 40);
    }

    private static void faultAndWhere() {
        AlmsHouse x = Check.withWills(1);
        Check.scheme(x, 0, 0, "put 1 kind = 1");
        check.due("5: fault", x.fault(), 2);
        check.due("6: where", x.where(), 6);
        x.clauses(0, 0);
        x.count(0);
        x.fact(0, 0, 0);
        check.due("6: where behind calls that can't be refused", x.where(), 6);
        x.scheme(7, 0, 0);
        check.due("5: fault behind a refusal by 1", x.fault(), 2);
        check.due("6: where behind a refusal by 1", x.where(), -1);
        x.scheme(0, -1, 0);
        check.due("5: fault behind a refusal by 2", x.fault(), 2);
        check.due("6: where behind a refusal by 2", x.where(), -1);
        x.scheme(0, 0, 0);
        check.due("5: fault of no text", x.fault(), 1);
        check.due("6: where of no text", x.where(), 0);
        x.trustee();
        check.due("5: fault behind another call", x.fault(), 1);
        check.due("6: where behind another call", x.where(), -1);
        Check.scheme(x, 0, 0, "strike 1");
        check.due("5: fault of a good one", x.fault(), 0);
        check.due("6: where of a good one", x.where(), -1);
    }

    private static void clauseInTime() {
        AlmsHouse x = Check.withWills(2);
        Check.scheme(x, 0, 100, "put 3 age > 50; put 12 kin = 1");
        Check.scheme(x, 0, 50, "put 3 age > 60; put 1 kin = 1");
        Check.scheme(x, 0, 150, "strike 3");
        Check.scheme(x, 1, 0, "put 3 waits > 1");
        check.due("7: ahead of all", x.clause(0, 3, 49), -2);
        check.due("7: from its day on", x.clause(0, 3, 50), 1);
        check.due("7: up to the next", x.clause(0, 3, 99), 1);
        check.due("7: the later day, though told first", x.clause(0, 3, 100), 0);
        check.due("7: the day ahead of the strike", x.clause(0, 3, 149), 0);
        check.due("7: struck", x.clause(0, 3, 150), -2);
        check.due("7: struck for good", x.clause(0, 3, 40000), -2);
        check.due("7: others stay", x.clause(0, 12, 40000), 0);
        check.due("7: number 1", x.clause(0, 1, 40000), 1);
        check.due("7: of another will", x.clause(1, 3, 0), 3);
        check.due("7: not of another will", x.clause(1, 12, 40000), -2);
    }

    private static void clauseOfOneDay() {
        AlmsHouse x = Check.withWills(1);
        Check.scheme(x, 0, 10, "put 1 age > 50");
        Check.scheme(x, 0, 10, "strike 1");
        check.due("7: told later strikes", x.clause(0, 1, 10), -2);
        Check.scheme(x, 0, 10, "strike 1; put 1 age > 60");
        check.due("7: later in the text puts", x.clause(0, 1, 10), 2);
        Check.scheme(x, 0, 10, "put 1 age > 60; strike 1");
        check.due("7: later in the text strikes", x.clause(0, 1, 10), -2);
        Check.scheme(x, 0, 11, "put 1 age > 60; put 1 age > 70; put 2 kin = 1");
        x.person(-65 * 365, 0, true);
        check.due("7: the later put holds", x.bars(0, 0, 11), 1);
    }

    private static void clauseOfOthers() {
        AlmsHouse x = Check.withWills(1);
        Check.scheme(x, 0, 0, "put 1 age > 50");
        check.due("7: will 1", x.clause(1, 1, 0), -1);
        check.due("7: will -1", x.clause(-1, 1, 0), -1);
        check.due("7: number 0", x.clause(0, 0, 0), -1);
        check.due("7: number 13", x.clause(0, 13, 0), -1);
        check.due("7: number 12", x.clause(0, 12, 0), -2);
        check.due("7: day -1", x.clause(0, 1, -1), -1);
        check.due("7: day 40001", x.clause(0, 1, 40001), -1);
        check.due("7: day 40000", x.clause(0, 1, 40000), 0);
        check.due("7: no trouble", x.trouble(), 0);
    }

    private static void clauses() {
        AlmsHouse x = Check.withWills(2);
        Check.scheme(x, 0, 5, "put 1 age>1;put 2 age>1;put 3 age>1;put 4 age>1;put 5 age>1;put 6 age>1;"
                + "put 7 age>1;put 8 age>1;put 9 age>1;put 10 age>1;put 11 age>1;put 12 age>1");
        Check.scheme(x, 0, 7, "strike 12; strike 11; strike 11; order age");
        check.due("8: ahead", x.clauses(0, 4), 0);
        check.due("8: all twelve", x.clauses(0, 5), 12);
        check.due("8: two struck", x.clauses(0, 7), 10);
        check.due("8: another will", x.clauses(1, 7), 0);
        check.due("8: no such will", x.clauses(2, 7), -1);
        check.due("8: will -1", x.clauses(-1, 7), -1);
        check.due("8: day -1", x.clauses(0, -1), -1);
        check.due("8: day 40000", x.clauses(0, 40000), 10);
        check.due("8: day 40001", x.clauses(0, 40001), -1);
    }
}
