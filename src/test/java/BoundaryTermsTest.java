import java.util.function.IntUnaryOperator;

/** Terms I and III to VI, sentence by sentence, at their edges; BoundaryTextsTest has Term II. */
public final class BoundaryTermsTest {
    private static final int MIN = Integer.MIN_VALUE;
    private static final int MAX = Integer.MAX_VALUE;
    private static final Check check = new Check();

    public static void main(String[] args) {
        calls();
        boundsOfWills();
        boundsOfPeople();
        boundsOfRooms();
        boundsOfDays();
        people();
        meansOfPeople();
        factsOfPeople();
        mayCome();
        whoIsNext();
        filling();
        turns();
        rents();
        doles();
        chest();
        troubles();
        check.end("BoundaryTermsTest");
    }

    private static void due(String call, long got, long want) {
        check.due(call, got, want);
    }

    // ---- the document's first words

    private static void calls() {
        check.says("What it is", "An object is used for at most 512 calls after it has been made");
        AlmsHouse x = new AlmsHouse();
        for (int call = 1; call <= 510; call++) {
            x.pass(call % 2 == 0 ? 1 : 0);
        }
        due("the 511th call", x.will(), 0);
        due("the 512th call", x.count(7), 255);
    }

    // ---- Term I

    private static void boundsOfWills() {
        check.says("I", "WILLS 4");
        AlmsHouse x = new AlmsHouse();
        for (int i = 0; i < 4; i++) {
            due("will()", x.will(), i);
        }
        check.due("a fifth", x.will(), -1, x, 3);
        due("count(0)", x.count(0), 4);
        due("the fourth has no clauses", x.clauses(3, 0), 0);
        due("there is no fifth", x.clauses(4, 0), -1);
        twelveClauses();
        fortySchemes();
    }

    private static void twelveClauses() {
        check.says("I", "of 12 CLAUSES (numbers 1 .. 12)");
        AlmsHouse x = Check.withWills(4);
        StringBuilder all = new StringBuilder();
        for (int number = 1; number <= 12; number++) {
            all.append(number == 1 ? "put " : ";put ").append(number).append(" kin=1");
        }
        for (int will = 0; will < 4; will++) {
            due("all twelve", Check.scheme(x, will, 0, all.toString()), will);
            due("clauses", x.clauses(will, 0), 12);
            due("clause 0", x.clause(will, 0, 0), -1);
            due("clause 1", x.clause(will, 1, 0), will);
            due("clause 12", x.clause(will, 12, 0), will);
            due("clause 13", x.clause(will, 13, 0), -1);
        }
        due("put 0", Check.scheme(x, 0, 0, "put 0 kin=1"), -1);
        due("put 13", Check.scheme(x, 0, 0, "put 13 kin=1"), -1);
    }

    private static void fortySchemes() {
        check.says("I", "SCHEMES 40");
        AlmsHouse x = Check.withWills(2);
        for (int i = 0; i < 40; i++) {
            due("scheme " + i, Check.scheme(x, i / 20, i, "strike 1"), i);
        }
        check.due("a 41st", Check.scheme(x, 0, 0, "put 1 kin=1"), -1, x, 3);
        check.due("a 41st of another will", Check.scheme(x, 1, 0, "order 1"), -1, x, 3);
        due("count(1)", x.count(1), 40);
        due("it puts nothing", x.clauses(0, 0), 0);
        // One that has a fault takes no place.
        AlmsHouse y = Check.withWills(1);
        for (int i = 0; i < 40; i++) {
            Check.scheme(y, 0, 0, "strike");
        }
        due("behind forty faults", Check.scheme(y, 0, 0, "strike 1"), 0);
    }

    private static void boundsOfPeople() {
        check.says("I", "PEOPLE 40");
        AlmsHouse x = new AlmsHouse();
        for (int i = 0; i < 40; i++) {
            due("person", x.person(0, 0, false), i);
        }
        check.due("a 41st", x.person(0, 0, false), -1, x, 3);
        due("the 40th", x.fact(39, 0, 0), 0);
        due("no 41st", x.fact(40, 0, 0), -1);
        x.dies(0);
        check.due("the dead keep their place", x.person(0, 0, false), -1, x, 3);
        due("count(2)", x.count(2), 40);

        check.says("I", "of each 6 MEANS");
        for (int i = 1; i <= 6; i++) {
            due("means", x.means(39, i, i), i);
        }
        check.due("a seventh", x.means(39, 7, 7), -1, x, 3);
        check.due("a seventh of a day that has some", x.means(39, 6, 7), -1, x, 3);
        due("the sixth stands", x.fact(39, 7, 2), 6);
        check.due("of another the first", x.means(38, 7, 7), 1, x, 0);
    }

    private static void boundsOfRooms() {
        check.says("I", "ROOMS 20");
        AlmsHouse x = Check.open(1, 0);
        for (int i = 0; i < 20; i++) {
            due("room", x.room(0), i);
        }
        check.due("a 21st", x.room(0), -1, x, 3);
        due("the 20th", x.roomOf(19, 0), 0);
        due("no 21st", x.roomOf(20, 0), -1);
        due("count(3)", x.count(3), 20);
        hundredStays();

        check.says("I", "TRUSTEES 8");
        AlmsHouse y = new AlmsHouse();
        for (int i = 0; i < 8; i++) {
            due("trustee", y.trustee(), i);
        }
        check.due("a ninth", y.trustee(), -1, y, 3);
        due("count(5)", y.count(5), 8);
        check.due("the eighth", y.away(7, true), true);
        check.due("no ninth", y.away(8, true), false);

        check.says("I", "LANDS 10");
        for (int i = 0; i < 10; i++) {
            due("land", y.land(1, 1, 1), i);
        }
        check.due("an eleventh", y.land(1, 1, 1), -1, y, 3);
        due("count(10)", y.count(10), 10);
        y.pass(1);
        due("ten rents", y.count(8), 10);
    }

    private static void hundredStays() {
        check.says("I", "STAYS in them 100");
        AlmsHouse x = Check.open(3, 20);
        x.person(0, 0, false);
        x.person(0, 0, false);
        for (int i = 0; i < 100; i++) {
            due("stay " + i, x.fill(i % 20), 0);
            if (i != 99) {
                x.leave(i % 20);
            }
        }
        due("the 100th lasts", x.roomOf(19, 1), 0);
        check.due("a 101st", x.fill(0), -1, x, 3);
        due("nobody came", x.roomOf(0, 1), -2);
        due("who gave it last", x.roomOf(0, 3), 80 % 3);
        due("the turn stays", x.count(6), 100 % 3);
        due("who was to come has no room", x.next(0, 0), 1);
        x.pass(1);
        due("the 100th is told", x.had(19, 0), 0);
        due("one that ended on its day", x.had(18, 0), -2);
    }

    private static void boundsOfDays() {
        check.says("I", "DAYS 0 .. 40,000");
        AlmsHouse x = Check.open(0, 0);
        x.person(0, 0, false);
        dayIsBound("clause", day -> x.clause(0, 1, day));
        dayIsBound("clauses", day -> x.clauses(0, day));
        dayIsBound("fact", day -> x.fact(0, day, 0));
        dayIsBound("may", day -> x.may(0, 0, day));
        dayIsBound("bars", day -> x.bars(0, 0, day));
        dayIsBound("order", day -> x.order(0, 0, day));
        dayIsBound("list", day -> x.list(0, day));
        dayIsBound("next", day -> x.next(0, day));
        dayIsBound("means", day -> x.means(0, day, 1));
        dayIsBound("scheme", day -> Check.scheme(x, 0, day, "strike 2"));

        check.says("I", "TODAY (0 at first) only grows.");
        AlmsHouse y = new AlmsHouse();
        due("count(7)", y.count(7), 0);
        for (int i = 1; i <= 100; i++) {
            y.pass(-1);
            y.pass(0);
            due("pass(400)", y.pass(400), 400 * i);
        }
        check.due("beyond the last day", y.pass(1), -1, y, 2);
        due("count(7)", y.count(7), 40000);

        check.says("I", "A YEAR has 365 DAYS.");
        AlmsHouse z = new AlmsHouse();
        z.person(0, 0, false);
        int[] days = {0, 364, 365, 366, 729, 730, 1460, 1461, 39784, 39785, 40000};
        int[] years = {0, 0, 1, 1, 1, 2, 4, 4, 108, 109, 109};
        for (int i = 0; i < days.length; i++) {
            due("age on day " + days[i], z.fact(0, days[i], 0), years[i]);
            due("years on day " + days[i], z.fact(0, days[i], 1), years[i]);
        }
    }

    private static void dayIsBound(String call, IntUnaryOperator asks) {
        int[] none = {MIN, -40000, -1, 40001, MAX};
        for (int day : none) {
            due(call + " on day " + day, asks.applyAsInt(day), -1);
        }
        int[] days = {0, 1, 39999, 40000};
        for (int day : days) {
            check.due(call + " on day " + day, asks.applyAsInt(day) != -1, true);
        }
    }

    // ---- Term III

    private static void people() {
        check.says("III", "A PERSON has a BIRTH (a DAY, -40,000 .. TODAY)");
        AlmsHouse x = new AlmsHouse();
        x.pass(10);
        check.due("the earliest", x.person(-40000, -40000, false), 0, x, 0);
        check.due("too early", x.person(-40001, -40000, false), -1, x, 2);
        check.due("today", x.person(10, 10, false), 1, x, 0);
        check.due("tomorrow", x.person(11, 11, false), -1, x, 2);
        check.due("least", x.person(MIN, 0, false), -1, x, 2);
        check.due("greatest", x.person(MAX, MAX, false), -1, x, 2);
        due("the greatest age", x.fact(0, 40000, 0), 80000 / 365);

        check.says("III", "a COMING (a DAY, from BIRTH to TODAY)");
        check.due("at birth", x.person(-5, -5, false), 2, x, 0);
        check.due("ahead of birth", x.person(-5, -6, false), -1, x, 2);
        check.due("today", x.person(-5, 10, false), 3, x, 0);
        check.due("tomorrow", x.person(-5, 11, false), -1, x, 2);
        check.due("least", x.person(-5, MIN, false), -1, x, 2);
        check.due("greatest", x.person(-5, MAX, false), -1, x, 2);

        check.says("III", "and ASKED TODAY, when told");
        due("waits today", x.fact(3, 10, 4), 0);
        due("waits tomorrow", x.fact(3, 11, 4), 1);
    }

    private static void meansOfPeople() {
        check.says("III", "MEANS from DAYS on (0 .. 9,999; 0 ahead of the first; of one DAY the latest told)");
        AlmsHouse x = new AlmsHouse();
        x.person(0, 0, false);
        due("none told", x.fact(0, 40000, 2), 0);
        check.due("too small", x.means(0, 100, -1), -1, x, 2);
        check.due("too large", x.means(0, 100, 10000), -1, x, 2);
        check.due("least", x.means(0, 100, MIN), -1, x, 2);
        check.due("greatest", x.means(0, 100, MAX), -1, x, 2);
        due("none of these", x.fact(0, 100, 2), 0);
        check.due("9,999", x.means(0, 100, 9999), 1, x, 0);
        due("ahead of the first", x.fact(0, 99, 2), 0);
        due("from its day on", x.fact(0, 100, 2), 9999);
        due("on the last day", x.fact(0, 40000, 2), 9999);
        check.due("0", x.means(0, 200, 0), 2, x, 0);
        due("the day ahead", x.fact(0, 199, 2), 9999);
        due("0 from its day on", x.fact(0, 200, 2), 0);
        check.due("told later for an earlier day", x.means(0, 150, 5), 3, x, 0);
        due("its day", x.fact(0, 150, 2), 5);
        due("the later day stays", x.fact(0, 200, 2), 0);
        check.due("of one day", x.means(0, 100, 7), 4, x, 0);
        due("the latest told", x.fact(0, 149, 2), 7);
        check.due("on day 0", x.means(0, 0, 3), 5, x, 0);
        due("on day 0 they stand", x.fact(0, 0, 2), 3);
        check.due("on day 40,000", x.means(0, 40000, 4), 6, x, 0);
        due("the day ahead of it", x.fact(0, 39999, 2), 0);
        due("on it", x.fact(0, 40000, 2), 4);
    }

    private static void factsOfPeople() {
        check.says("III", "age: whole YEARS since BIRTH, years: since COMING, means, kin, waits: DAYS since ASKED");
        AlmsHouse x = new AlmsHouse();
        x.pass(400);
        x.person(-330, 35, true);
        int[] days = {34, 35, 399, 400, 401, 764, 765};
        int[] age = {0, 1, 1, 2, 2, 2, 3};
        int[] years = {0, 0, 0, 1, 1, 1, 2};
        int[] waits = {0, 0, 0, 0, 1, 364, 365};
        for (int i = 0; i < days.length; i++) {
            due("age on day " + days[i], x.fact(0, days[i], 0), age[i]);
            due("years on day " + days[i], x.fact(0, days[i], 1), years[i]);
            due("waits on day " + days[i], x.fact(0, days[i], 4), waits[i]);
        }
        check.says("III", "each 0 at least");
        x.person(400, 400, false);
        // A year and more ahead of birth, of coming and of asking.
        for (int what = 0; what <= 4; what++) {
            due("fact " + what + " on day 0", x.fact(1, 0, what), 0);
        }
        due("a day ahead of birth", x.fact(1, 399, 0), 0);
        due("years of one that comes later", x.fact(0, 0, 1), 0);
        x.will();
        Check.scheme(x, 0, 0, "order 9999*age+9999*years+9999*means+9999*waits");
        due("the order ahead of birth", x.order(1, 0, 0), 0);
    }

    private static void mayCome() {
        check.says("III", "MAY come under a WILL on a DAY: it has a CLAUSE then and all CLAUSES hold");
        AlmsHouse x = Check.withWills(1);
        x.person(0, 0, true);
        due("no clause", x.may(0, 0, 0), 0);
        Check.scheme(x, 0, 10, "put 12 kin=1");
        Check.scheme(x, 0, 20, "put 1 kin=0");
        Check.scheme(x, 0, 30, "strike 1");
        Check.scheme(x, 0, 40, "strike 12;order 1");
        int[] days = {9, 10, 19, 20, 29, 30, 39, 40};
        int[] may = {0, 1, 1, 0, 0, 1, 1, 0};
        for (int i = 0; i < days.length; i++) {
            due("day " + days[i], x.may(0, 0, days[i]), may[i]);
            due("list on day " + days[i], x.list(0, days[i]), may[i]);
        }
        check.says("III", "and it had ASKED by then, and wasn't DEAD then");
        AlmsHouse y = Check.open(0, 0);
        y.pass(20);
        y.person(0, 0, false);
        due("the day ahead of asking", y.may(0, 0, 19), 0);
        due("the day of asking", y.may(0, 0, 20), 1);
        due("the last day", y.may(0, 0, 40000), 1);
        y.pass(5);
        y.dies(0);
        due("the day ahead of death", y.may(0, 0, 24), 1);
        due("the day of death", y.may(0, 0, 25), 0);
        due("the last day", y.may(0, 0, 40000), 0);
        y.person(0, 0, false);
        y.dies(1);
        due("dead on the day of asking", y.may(1, 0, 25), 0);
    }

    private static void whoIsNext() {
        check.says("III", "of those that MAY come and have no ROOM TODAY the one with the greatest ORDER");
        AlmsHouse x = Check.withWills(1);
        due("without people", x.next(0, 0), -2);
        x.person(-10000, 0, false);
        due("without a clause", x.next(0, 0), -2);
        Check.scheme(x, 0, 0, "put 1 means<5;order means");
        x.person(-10000, 0, false);
        x.means(0, 0, 3);
        x.means(1, 0, 4);
        due("greater by one", x.next(0, 0), 1);
        x.means(1, 0, 5);
        due("who may come", x.next(0, 0), 0);
        x.means(1, 0, 2);
        due("less by one", x.next(0, 0), 0);
        x.means(1, 0, 4);
        x.trustee();
        x.room(0);
        due("the room goes to", x.fill(0), 1);
        due("who has no room", x.next(0, 0), 0);
        x.leave(0);
        due("who has none any more", x.next(0, 0), 1);

        check.says("III", "of as great ones that who ASKED first, then by number");
        AlmsHouse y = Check.open(1, 2);
        y.person(0, 0, false);
        y.person(0, 0, false);
        y.pass(1);
        y.person(0, 0, false);
        due("all as great", y.next(0, 1), 0);
        y.fill(0);
        due("of one day the lesser number", y.next(0, 1), 1);
        y.fill(1);
        due("who asked later", y.next(0, 1), 2);
        Check.scheme(y, 0, 0, "order 0*age");
        y.leave(0);
        due("an order of 0 as none", y.next(0, 1), 0);
        due("on the day ahead of asking", y.next(0, 0), 0);
    }

    // ---- Term IV

    private static void filling() {
        check.says("IV", "ROOMS are each of a WILL. FILL: a ROOM that is empty is given by the TRUSTEE whose "
                + "TURN it is to NEXT");
        AlmsHouse x = Check.withWills(2);
        Check.scheme(x, 0, 0, "put 1 kin=0");
        Check.scheme(x, 1, 0, "put 1 kin=1");
        x.trustee();
        x.room(0);
        x.room(1);
        x.person(0, 0, true);
        check.due("nobody of its will", x.fill(0), -1, x, 6);
        check.due("of its will", x.fill(1), 0, x, 0);
        check.due("not empty", x.fill(1), -1, x, 5);
        x.leave(1);
        check.due("empty again", x.fill(1), 0, x, 0);
        x.dies(0);
        check.due("nobody is left", x.fill(1), -1, x, 6);

        check.says("IV", "of its WILL, TODAY: that is a STAY");
        AlmsHouse y = Check.withWills(1);
        y.person(0, 0, false);
        y.trustee();
        y.room(0);
        Check.scheme(y, 0, 5, "put 1 waits>4;put 2 waits<6");
        y.pass(4);
        check.due("the day ahead", y.fill(0), -1, y, 6);
        y.pass(1);
        check.due("the day", y.fill(0), 0, y, 0);
        due("since today", y.roomOf(0, 2), 5);
        y.leave(0);
        y.pass(1);
        check.due("the day behind", y.fill(0), -1, y, 6);
        due("who had it at the end of that day", y.had(0, 5), -2);
    }

    private static void turns() {
        check.says("IV", "(Those that are AWAY are passed over, by numbers, round; if all are, none can be filled.)");
        AlmsHouse x = Check.open(3, 6);
        for (int i = 0; i < 6; i++) {
            x.person(0, 0, false);
        }
        x.away(0, true);
        x.away(1, true);
        x.away(2, true);
        check.due("all are away", x.fill(0), -1, x, 6);
        due("the turn stays", x.count(6), 0);
        x.away(2, false);
        due("the last number", x.fill(0), 0);
        due("gave it", x.roomOf(0, 3), 2);
        check.says("IV", "The TURN is that of the one behind who gave it then.");
        due("round", x.count(6), 0);
        due("again", x.fill(1), 1);
        due("passed over round", x.roomOf(1, 3), 2);
        x.away(0, false);
        x.away(2, true);
        due("whose turn it is", x.fill(2), 2);
        due("gave it", x.roomOf(2, 3), 0);
        due("the one behind, though away", x.count(6), 1);
        due("round past two", x.fill(3), 3);
        due("gave it", x.roomOf(3, 3), 0);
        due("the one behind who gave it", x.count(6), 1);
        x.away(1, false);
        due("back in time", x.fill(4), 4);
        due("gave it", x.roomOf(4, 3), 1);

        check.says("IV", "Without a NEXT it stays.");
        x.dies(5);
        check.due("no next", x.fill(5), -1, x, 6);
        due("the turn", x.count(6), 2);

        check.says("IV", "The TURN is that of the one behind who gave it then.");
        AlmsHouse y = Check.open(8, 9);
        for (int i = 0; i < 9; i++) {
            y.person(0, 0, false);
            y.fill(i);
            due("giver of room " + i, y.roomOf(i, 3), i % 8);
            due("turn behind room " + i, y.count(6), (i + 1) % 8);
        }
        AlmsHouse z = Check.open(1, 1);
        z.person(0, 0, false);
        z.fill(0);
        due("of one alone", z.count(6), 0);
    }

    // ---- Term V

    private static void rents() {
        check.says("V", "LANDS by number bring their RENT (0 .. 9,999) into the CHEST if the DAY less their "
                + "first one is a multiple of "
                + "their EACH (1 .. 400), from their first one on");
        rentIs(0, 1, 1, 400, 0);
        rentIs(1, 1, 1, 1, 1);
        rentIs(1, 1, 1, 400, 400);
        rentIs(9999, 400, 1, 400, 9999);
        rentIs(9999, 400, 1, 401, 2 * 9999);
        rentIs(9999, 400, 400, 399, 0);
        rentIs(9999, 400, 400, 400, 9999);
        rentIs(9999, 400, 401, 400, 0);
        rentIs(5, 2, 2, 1, 0);
        rentIs(5, 2, 2, 2, 5);
        rentIs(5, 2, 2, 3, 5);
        rentIs(5, 2, 2, 4, 10);
        // The days less the first one count, not the days.
        rentIs(5, 3, 2, 3, 5);
        rentIs(5, 3, 2, 5, 10);
        // Multiples ahead of the first one don't.
        rentIs(5, 3, 9, 8, 0);
        rentIs(5, 3, 9, 9, 5);
        AlmsHouse x = new AlmsHouse();
        x.land(7, 1, 40000);
        for (int i = 0; i < 99; i++) {
            x.pass(400);
        }
        x.pass(399);
        due("ahead of the last day", x.count(9), 0);
        x.pass(1);
        due("on the last day", x.count(9), 7);
    }

    private static void rentIs(int rent, int each, int first, int day, int due) {
        AlmsHouse x = new AlmsHouse();
        String land = "land(" + rent + ", " + each + ", " + first + ") on day " + day;
        due(land, x.land(rent, each, first), 0);
        if (day > 400) {
            x.pass(400);
        }
        x.pass(day - x.count(7));
        due(land + ": the chest", x.count(8), due);
        due(land + ": rents", x.count(9), due);
    }

    private static void doles() {
        check.says("V", "then, if it is a multiple of 7, each who has a ROOM, by ROOMS, gets the DOLE (0 .. "
                + "999; 10 at first) and what is OWED");
        AlmsHouse x = Check.open(1, 3);
        x.person(0, 0, false);
        x.fill(1);
        int[] owed = {0, 0, 0, 0, 0, 0, 0, 10, 10, 10, 10, 10, 10, 10, 20, 20};
        for (int day = 1; day < owed.length; day++) {
            x.pass(1);
            due("owed on day " + day, x.owed(0), owed[day]);
        }
        x.dole(999);
        x.pass(6);
        due("the greatest dole", x.owed(0), 20 + 999);
        x.dole(0);
        x.pass(7);
        due("a dole of 0", x.owed(0), 20 + 999);
        x.land(20 + 999, 400, 35);
        x.pass(6);
        due("the day ahead", x.got(0), 0);
        x.pass(1);
        due("what is owed, with a dole of 0", x.got(0), 20 + 999);
        due("nothing is owed", x.owed(0), 0);

        check.says("V", "of these as much as the CHEST has; what lacks is OWED");
        paid(0, 0, 0);
        paid(1, 1, 0);
        paid(9, 9, 0);
        paid(10, 10, 0);
        paid(11, 10, 1);
        paid(19, 10, 9);
        paid(20, 10, 10);
        paid(21, 10, 10);
        byRooms();

        check.says("V", "EACH DAY that goes, in order: LANDS");
        AlmsHouse y = Check.open(1, 1);
        y.person(0, 0, false);
        y.fill(0);
        y.land(6, 7, 7);
        y.land(4, 7, 7);
        y.pass(7);
        due("rents come ahead of doles", y.got(0), 10);
        check.says("V", "These are of the DAY that comes (TODAY then).");
        AlmsHouse z = Check.open(1, 1);
        z.person(0, 0, false);
        z.pass(7);
        z.fill(0);
        z.pass(6);
        due("filled on day 7, on day 13", z.owed(0), 0);
        z.pass(1);
        due("on day 14", z.owed(0), 10);
        z.pass(28);
        due("four at once", z.owed(0), 50);
    }

    /** Two that have rooms, a chest of so much on day 7, and what each gets of the dole of 10. */
    private static void paid(int chest, int first, int second) {
        AlmsHouse x = Check.open(1, 2);
        x.person(0, 0, false);
        x.person(0, 0, false);
        x.fill(0);
        x.fill(1);
        x.land(chest, 400, 7);
        x.pass(7);
        String of = " of a chest of " + chest;
        due("the first got" + of, x.got(0), first);
        due("the first is owed" + of, x.owed(0), 10 - first);
        due("the second got" + of, x.got(1), second);
        due("the second is owed" + of, x.owed(1), 10 - second);
        due("what is left" + of, x.count(8), chest - first - second);
    }

    private static void byRooms() {
        AlmsHouse x = Check.open(1, 20);
        x.person(0, 0, false);
        x.person(0, 0, false);
        x.person(0, 0, false);
        x.fill(19);
        x.fill(0);
        x.land(10, 7, 7);
        x.pass(7);
        due("room 0 is first", x.got(1), 10);
        due("room 19 is last", x.got(0), 0);
        due("without a room", x.owed(2), 0);
        due("what is owed to room 19", x.owed(0), 10);
        x.leave(0);
        x.pass(7);
        due("who left gets none", x.got(1), 10);
        due("room 19 gets what there is", x.got(0), 10);
        due("dole and owed less that", x.owed(0), 10);
    }

    private static void chest() {
        check.says("V", "The CHEST has at most 1,000,000 (what comes above is lost).");
        chestHolds(99, 999999);
        chestHolds(100, 1000000);
        chestHolds(101, 1000000);
        chestHolds(9999, 1000000);
        AlmsHouse x = Check.open(1, 1);
        x.person(0, 0, false);
        x.fill(0);
        x.dole(0);
        x.land(9999, 1, 1);
        x.pass(104);
        due("full", x.count(8), 1000000);
        x.dole(1);
        x.pass(1);
        due("a rent is lost ahead of the dole of its day", x.count(8), 999999);
        x.pass(1);
        due("full again", x.count(8), 1000000);
    }

    /** What the chest has when a hundred rents of 9,999 came, and then another land's. */
    private static void chestHolds(int last, int due) {
        AlmsHouse x = new AlmsHouse();
        x.land(9999, 1, 1);
        x.land(last, 400, 100);
        x.pass(99);
        due("ninety-nine rents", x.count(8), 99 * 9999);
        x.pass(1);
        due("a hundred, and one of " + last, x.count(8), due);
        due("all that came", x.count(9), 100 * 9999 + last);
    }

    // ---- Term VI

    private static void troubles() {
        check.says("VI", "TROUBLE of the latest call that may be refused: 0 it wasn't");
        AlmsHouse x = new AlmsHouse();
        due("at first", x.trouble(), 0);
        check.due("will", x.will(), 0, x, 0);
        check.says("VI", "1 there is none such");
        check.due("room of no will", x.room(1), -1, x, 1);
        check.says("VI", "2 a number");
        check.due("pass(0)", x.pass(0), -1, x, 2);
        check.says("VI", "3 no room");
        for (int i = 1; i < 4; i++) {
            check.due("will", x.will(), i, x, 0);
        }
        check.due("a fifth will", x.will(), -1, x, 3);
        check.says("VI", "4 a FAULT");
        check.due("no text", x.scheme(0, 0, 0), -1, x, 4);
        check.says("VI", "5 it has one already, or is DEAD");
        AlmsHouse y = Check.open(1, 1);
        y.person(0, 0, false);
        y.fill(0);
        check.due("it has one", y.fill(0), -1, y, 5);
        y.dies(0);
        check.due("dead", y.dies(0) ? 1 : 0, 0, y, 5);
        check.says("VI", "6 nobody (no TRUSTEE, no NEXT)");
        check.due("no next", y.fill(0), -1, y, 6);
        y.person(0, 0, false);
        y.away(0, true);
        check.due("no trustee", y.fill(0), -1, y, 6);
        y.away(0, false);
        check.due("both", y.fill(0), 1, y, 0);
    }
}
