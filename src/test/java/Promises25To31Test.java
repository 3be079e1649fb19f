/** Lands, doles, the days that go, what is counted, and trouble. */
public final class Promises25To31Test {
    private static final Check check = new Check();

    public static void main(String[] args) {
        land();
        landRoom();
        dole();
        pass();
        passToTheEnd();
        rents();
        rentsAheadOfDoles();
        fullChest();
        allRents();
        dolesByRooms();
        owedAndGot();
        count();
        trouble();
        check.end("Promises25To31Test");
    }

    private static void landIs(AlmsHouse x, int rent, int each, int first, int due, int trouble) {
        String call = "25: land(" + rent + ", " + each + ", " + first + ")";
        check.due(call, x.land(rent, each, first), due);
        check.due(call + " trouble", x.trouble(), trouble);
    }

    private static void land() {
        AlmsHouse x = new AlmsHouse();
        landIs(x, 0, 1, 1, 0, 0);
        landIs(x, 9999, 400, 40000, 1, 0);
        landIs(x, -1, 1, 1, -1, 2);
        landIs(x, 10000, 1, 1, -1, 2);
        landIs(x, 1, 0, 1, -1, 2);
        landIs(x, 1, -1, 1, -1, 2);
        landIs(x, 1, 401, 1, -1, 2);
        landIs(x, 1, 1, 0, -1, 2);
        landIs(x, 1, 1, 40001, -1, 2);
        x.pass(10);
        landIs(x, 1, 1, 10, -1, 2);
        landIs(x, 1, 1, 11, 2, 0);
        check.due("25: count(10)", x.count(10), 3);
    }

    private static void landRoom() {
        AlmsHouse x = new AlmsHouse();
        for (int i = 0; i < 10; i++) {
            landIs(x, 1, 1, 1, i, 0);
        }
        landIs(x, 1, 1, 1, -1, 3);
        landIs(x, 1, 0, 1, -1, 2);
        check.due("25: count(10)", x.count(10), 10);
    }

    private static void dole() {
        AlmsHouse x = Check.open(1, 1);
        x.person(0, 0, false);
        x.fill(0);
        check.due("26: -1", x.dole(-1), false);
        check.due("26: trouble", x.trouble(), 2);
        check.due("26: 1000", x.dole(1000), false);
        check.due("26: trouble", x.trouble(), 2);
        x.pass(7);
        check.due("26: 10 at first", x.owed(0), 10);
        check.due("26: 999", x.dole(999), true);
        check.due("26: trouble", x.trouble(), 0);
        x.pass(7);
        check.due("26: with 999", x.owed(0), 1009);
        check.due("26: 0", x.dole(0), true);
        x.pass(7);
        check.due("26: with 0", x.owed(0), 1009);
    }

    private static void passIs(AlmsHouse x, int days, int due, int trouble) {
        check.due("27: pass(" + days + ")", x.pass(days), due);
        check.due("27: pass(" + days + ") trouble", x.trouble(), trouble);
    }

    private static void pass() {
        AlmsHouse x = new AlmsHouse();
        passIs(x, 0, -1, 2);
        passIs(x, -1, -1, 2);
        passIs(x, 401, -1, 2);
        passIs(x, Integer.MAX_VALUE, -1, 2);
        passIs(x, Integer.MIN_VALUE, -1, 2);
        check.due("27: count(7)", x.count(7), 0);
        passIs(x, 1, 1, 0);
        passIs(x, 400, 401, 0);
        check.due("27: count(7)", x.count(7), 401);
    }

    private static void passToTheEnd() {
        AlmsHouse x = new AlmsHouse();
        for (int i = 1; i < 100; i++) {
            passIs(x, 400, 400 * i, 0);
        }
        passIs(x, 399, 39999, 0);
        passIs(x, 2, -1, 2);
        passIs(x, 1, 40000, 0);
        passIs(x, 1, -1, 2);
        check.due("27: no land any more", x.land(1, 1, 40001), -1);
        check.due("27: born on the last day", x.person(40000, 40000, false), 0);
    }

    private static void rents() {
        AlmsHouse x = new AlmsHouse();
        x.land(100, 3, 2);
        x.land(1, 400, 5);
        int[] chest = {0, 0, 100, 100, 100, 201, 201, 201, 301};
        for (int day = 1; day < chest.length; day++) {
            x.pass(1);
            check.due("27: chest on day " + day, x.count(8), chest[day]);
            check.due("30: rents on day " + day, x.count(9), chest[day]);
        }
        x.pass(396);
        check.due("27: each 400", x.count(8), 301 + 100 * 132);
        x.pass(1);
        check.due("27: each 400 again", x.count(8), 302 + 100 * 132);
    }

    private static void rentsAheadOfDoles() {
        AlmsHouse x = Check.open(1, 1);
        x.person(0, 0, false);
        x.fill(0);
        x.land(4, 7, 7);
        x.land(5, 7, 7);
        x.pass(6);
        check.due("27: no dole on day 6", x.owed(0), 0);
        x.pass(1);
        check.due("27: rents of the day are paid out", x.got(0), 9);
        check.due("27: what lacks", x.owed(0), 1);
        check.due("27: chest", x.count(8), 0);
        check.due("30: rents", x.count(9), 9);
    }

    private static void fullChest() {
        AlmsHouse x = Check.open(1, 1);
        x.person(0, 0, false);
        x.fill(0);
        x.dole(0);
        x.land(9999, 1, 1);
        x.pass(100);
        check.due("27: ahead of the bound", x.count(8), 999900);
        x.pass(1);
        check.due("27: what comes above is lost", x.count(8), 1000000);
        check.due("30: it came", x.count(9), 101 * 9999);
        x.dole(999);
        x.pass(4);
        check.due("27: the dole leaves room", x.count(8), 1000000 - 999);
        check.due("29: got", x.got(0), 999);
    }

    private static void allRents() {
        AlmsHouse x = new AlmsHouse();
        for (int i = 0; i < 10; i++) {
            x.land(9999, 1, 1);
        }
        for (int i = 0; i < 50; i++) {
            x.pass(400);
        }
        check.due("30: rents", x.count(9), 1999800000);
        x.pass(2);
        check.due("30: rents just below", x.count(9), 1999999980);
        x.pass(1);
        check.due("30: rents are told up to a bound", x.count(9), 2000000000);
        for (int i = 0; i < 49; i++) {
            x.pass(400);
        }
        check.due("30: rents beyond an int", x.count(9), 2000000000);
    }

    private static void dolesByRooms() {
        AlmsHouse x = Check.open(1, 3);
        for (int i = 0; i < 3; i++) {
            x.person(0, 0, false);
        }
        x.fill(2);
        x.fill(0);
        x.land(25, 7, 7);
        x.pass(7);
        check.due("27: the first room", x.got(1), 10);
        check.due("27: the last room", x.got(0), 10);
        check.due("27: chest", x.count(8), 5);
        x.fill(1);
        x.dole(20);
        x.pass(7);
        check.due("27: the first room", x.got(1), 30);
        check.due("27: the second room", x.got(2), 10);
        check.due("27: owed in the second", x.owed(2), 10);
        check.due("27: the last room", x.got(0), 10);
        check.due("27: owed in the last", x.owed(0), 20);
        x.dole(0);
        x.pass(7);
        check.due("27: what is owed is paid", x.got(2), 20);
        check.due("27: owed no more", x.owed(2), 0);
        check.due("27: as far as it goes", x.got(0), 25);
        check.due("27: what lacks stays owed", x.owed(0), 5);
    }

    private static void owedAndGot() {
        AlmsHouse x = Check.open(1, 1);
        check.due("28: nobody", x.owed(0), -1);
        check.due("29: nobody", x.got(0), -1);
        x.person(0, 0, false);
        x.person(0, 0, false);
        x.fill(0);
        x.land(15, 7, 7);
        x.pass(14);
        check.due("28: owed", x.owed(0), 0);
        check.due("29: got", x.got(0), 20);
        check.due("28: of another", x.owed(1), 0);
        check.due("29: of another", x.got(1), 0);
        x.leave(0);
        check.due("29: behind leaving", x.got(0), 20);
        x.dies(0);
        check.due("29: behind death", x.got(0), 20);
        check.due("28: -1", x.owed(-1), -1);
        check.due("29: -1", x.got(-1), -1);
        check.due("28: 2", x.owed(2), -1);
        check.due("29: 2", x.got(2), -1);
        check.due("28: no trouble", x.trouble(), 0);
    }

    private static void count() {
        AlmsHouse x = Check.withWills(3);
        Check.scheme(x, 0, 0, "put 1 waits < 9999");
        Check.scheme(x, 1, 0, "strike 1");
        Check.feed(x, "strike");
        for (int i = 0; i < 5; i++) {
            x.person(0, 0, false);
        }
        for (int i = 0; i < 6; i++) {
            x.room(0);
        }
        for (int i = 0; i < 7; i++) {
            x.trustee();
        }
        x.fill(3);
        x.fill(4);
        x.land(30, 8, 8);
        x.land(2, 400, 9);
        x.pass(9);
        int[] due = {3, 2, 5, 6, 4, 7, 2, 9, 32, 32, 2, 20};
        for (int what = 0; what < due.length; what++) {
            check.due("30: count(" + what + ")", x.count(what), due[what]);
        }
        check.due("30: count(-1)", x.count(-1), -1);
        check.due("30: count(12)", x.count(12), -1);
        check.due("30: count(MAX)", x.count(Integer.MAX_VALUE), -1);
        check.due("30: count(MIN)", x.count(Integer.MIN_VALUE), -1);
    }

    /** Calls that are not refused by a number leave trouble as it is; those that may be tell it anew. */
    private static void trouble() {
        AlmsHouse x = Check.open(1, 1);
        x.person(0, 0, false);
        x.pass(0);
        x.fault();
        x.where();
        x.clause(9, 9, 9);
        x.clauses(9, 9);
        x.fact(9, 9, 9);
        x.may(9, 9, 9);
        x.bars(9, 9, 9);
        x.order(9, 9, 9);
        x.list(9, 9);
        x.next(9, 9);
        x.roomOf(9, 9);
        x.had(9, 9);
        x.owed(9);
        x.got(9);
        x.count(99);
        x.feed(0, 0, 0, 0, 0);
        check.due("31: it stays", x.trouble(), 2);
        check.due("31: trouble leaves itself", x.trouble(), 2);
        cleared(x, x.will(), "will");
        cleared(x, x.person(0, 0, false), "person");
        cleared(x, x.means(0, 0, 0), "means");
        cleared(x, x.room(0), "room");
        cleared(x, x.trustee(), "trustee");
        cleared(x, x.away(0, false) ? 1 : -1, "away");
        cleared(x, x.fill(0), "fill");
        cleared(x, x.leave(0), "leave");
        cleared(x, x.land(1, 1, 1), "land");
        cleared(x, x.dole(1) ? 1 : -1, "dole");
        cleared(x, x.pass(1), "pass");
        cleared(x, x.dies(0) ? 1 : -1, "dies");
        cleared(x, Check.scheme(x, 0, 0, "                    ") + 1, "scheme with a fault");
        cleared(x, Check.scheme(x, 0, 0, "strike 1"), "scheme");
    }

    private static void cleared(AlmsHouse x, int answer, String call) {
        boolean fault = call.equals("scheme with a fault");
        check.due("31: " + call + " is not refused", answer >= 0, true);
        check.due("31: trouble of " + call, x.trouble(), fault ? 4 : 0);
        x.leave(-1);
        check.due("31: trouble of leave", x.trouble(), 1);
    }
}
