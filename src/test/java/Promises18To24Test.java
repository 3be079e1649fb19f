/** Rooms, the trustees that give them in turn, and who had them. */
public final class Promises18To24Test {
    private static final Check check = new Check();

    public static void main(String[] args) {
        room();
        trustee();
        away();
        fillRefusals();
        fillInTurn();
        fillByOrder();
        turnAndNewTrustees();
        staysRoom();
        leave();
        roomOf();
        had();
        check.end("Promises18To24Test");
    }

    private static void room() {
        AlmsHouse x = new AlmsHouse();
        check.due("18: no will", x.room(0), -1);
        check.due("18: trouble", x.trouble(), 1);
        x.will();
        x.will();
        check.due("18: will -1", x.room(-1), -1);
        check.due("18: will 2", x.room(2), -1);
        for (int i = 0; i < 20; i++) {
            check.due("18: room", x.room(i % 2), i);
            check.due("18: its will", x.roomOf(i, 0), i % 2);
            check.due("18: trouble", x.trouble(), 0);
        }
        check.due("18: a 21st", x.room(0), -1);
        check.due("18: trouble of a 21st", x.trouble(), 3);
        check.due("18: 1 goes ahead of 3", x.room(5), -1);
        check.due("18: trouble", x.trouble(), 1);
        check.due("18: count(3)", x.count(3), 20);
        check.due("18: count(4)", x.count(4), 20);
    }

    private static void trustee() {
        AlmsHouse x = new AlmsHouse();
        for (int i = 0; i < 8; i++) {
            check.due("19: trustee", x.trustee(), i);
            check.due("19: trouble", x.trouble(), 0);
            check.due("19: the first has the turn", x.count(6), 0);
        }
        check.due("19: a ninth", x.trustee(), -1);
        check.due("19: trouble of a ninth", x.trouble(), 3);
        check.due("19: count(5)", x.count(5), 8);
    }

    private static void away() {
        AlmsHouse x = Check.open(0, 1);
        x.person(0, 0, false);
        check.due("20: nobody", x.away(0, true), false);
        check.due("20: trouble", x.trouble(), 1);
        x.trustee();
        check.due("20: away", x.away(0, true), true);
        check.due("20: trouble", x.trouble(), 0);
        check.due("20: turn though away", x.count(6), 0);
        check.due("20: all are away", x.fill(0), -1);
        check.due("20: trouble of fill", x.trouble(), 6);
        check.due("20: again", x.away(0, true), true);
        check.due("20: no more", x.away(0, false), true);
        check.due("20: fill", x.fill(0), 0);
        check.due("20: -1", x.away(-1, false), false);
        check.due("20: trouble", x.trouble(), 1);
        check.due("20: 1", x.away(1, false), false);
        check.due("20: 8", x.away(8, false), false);
    }

    private static void fillRefusals() {
        AlmsHouse x = Check.open(0, 2);
        fillIs(x, 2, -1, 1);
        fillIs(x, -1, -1, 1);
        x.person(0, 0, false);
        fillIs(x, 0, -1, 6);
        x.trustee();
        x.trustee();
        fillIs(x, 0, 0, 0);
        fillIs(x, 0, -1, 5);
        fillIs(x, 1, -1, 6);
        check.due("21: the turn stays without a next", x.count(6), 1);
        x.away(0, true);
        x.away(1, true);
        fillIs(x, 0, -1, 5);
        x.person(0, 0, false);
        fillIs(x, 1, -1, 6);
        x.will();
        x.room(1);
        x.away(0, false);
        fillIs(x, 2, -1, 6);
        fillIs(x, 1, 1, 0);
    }

    private static void fillIs(AlmsHouse x, int room, int due, int trouble) {
        check.due("21: fill(" + room + ")", x.fill(room), due);
        check.due("21: fill(" + room + ") trouble", x.trouble(), trouble);
    }

    private static void fillInTurn() {
        AlmsHouse x = Check.open(4, 9);
        for (int i = 0; i < 9; i++) {
            x.person(0, 0, false);
        }
        x.away(2, true);
        int[] givers = {0, 1, 3, 0, 1};
        int[] turns = {1, 2, 0, 1, 2};
        for (int i = 0; i < givers.length; i++) {
            fillIs(x, i, i, 0);
            check.due("21: giver", x.roomOf(i, 3), givers[i]);
            check.due("21: turn", x.count(6), turns[i]);
        }
        x.away(3, true);
        fillIs(x, 5, 5, 0);
        check.due("21: passed over round", x.roomOf(5, 3), 0);
        x.away(2, false);
        x.away(3, false);
        x.away(0, true);
        x.away(1, true);
        fillIs(x, 6, 6, 0);
        check.due("21: giver", x.roomOf(6, 3), 2);
        fillIs(x, 7, 7, 0);
        check.due("21: giver", x.roomOf(7, 3), 3);
        check.due("21: turn of one that is away", x.count(6), 0);
        fillIs(x, 8, 8, 0);
        check.due("21: giver", x.roomOf(8, 3), 2);
    }

    private static void fillByOrder() {
        AlmsHouse x = Check.open(1, 1);
        x.will();
        x.room(1);
        Check.scheme(x, 0, 0, "order kin");
        Check.scheme(x, 0, 5, "order 2*age");
        Check.scheme(x, 1, 0, "put 3 age < 10; order means");
        x.person(-4000, 0, false);
        x.person(0, 0, true);
        x.pass(4);
        fillIs(x, 0, 1, 0);
        x.leave(0);
        x.pass(1);
        fillIs(x, 0, 0, 0);
        fillIs(x, 1, 1, 0);
        check.due("21: one room each", x.next(0, 5), -2);
    }

    private static void turnAndNewTrustees() {
        AlmsHouse x = Check.open(1, 3);
        for (int i = 0; i < 3; i++) {
            x.person(0, 0, false);
        }
        x.fill(0);
        check.due("21: round to the only one", x.count(6), 0);
        x.trustee();
        check.due("21: the turn stays", x.count(6), 0);
        x.fill(1);
        check.due("21: giver", x.roomOf(1, 3), 0);
        x.fill(2);
        check.due("21: giver", x.roomOf(2, 3), 1);
    }

    private static void staysRoom() {
        AlmsHouse x = Check.open(2, 2);
        x.person(0, 0, false);
        for (int i = 0; i < 100; i++) {
            fillIs(x, i % 2, 0, 0);
            x.leave(i % 2);
        }
        fillIs(x, 0, -1, 3);
        check.due("21: nothing given", x.roomOf(0, 1), -2);
        check.due("21: the turn stays", x.count(6), 0);
        fillIs(x, 2, -1, 1);
        x.dies(0);
        fillIs(x, 0, -1, 6);
    }

    private static void leave() {
        AlmsHouse x = Check.open(1, 2);
        leaveIs(x, 2, -1, 1);
        leaveIs(x, -1, -1, 1);
        leaveIs(x, 0, -1, 6);
        x.person(0, 0, false);
        x.person(0, 0, false);
        x.fill(0);
        x.fill(1);
        x.pass(14);
        check.due("22: owed", x.owed(0), 20);
        leaveIs(x, 0, 0, 0);
        check.due("22: forgotten", x.owed(0), 0);
        check.due("22: the other's stays", x.owed(1), 20);
        check.due("22: empty", x.roomOf(0, 1), -2);
        check.due("22: empty ones", x.count(4), 1);
        check.due("22: may come again", x.next(0, 14), 0);
        leaveIs(x, 0, -1, 6);
        x.pass(7);
        check.due("22: no dole without a room", x.owed(0), 0);
        fillIs(x, 0, 0, 0);
        leaveIs(x, 1, 1, 0);
    }

    private static void leaveIs(AlmsHouse x, int room, int due, int trouble) {
        check.due("22: leave(" + room + ")", x.leave(room), due);
        check.due("22: leave(" + room + ") trouble", x.trouble(), trouble);
    }

    private static void roomOf() {
        AlmsHouse x = Check.open(2, 0);
        x.will();
        x.room(1);
        x.room(0);
        x.person(0, 0, false);
        x.person(0, 0, false);
        x.pass(3);
        int[] fresh = {0, -2, -2, -2};
        roomIs(x, 1, fresh);
        x.fill(1);
        int[] filled = {0, 0, 3, 0};
        roomIs(x, 1, filled);
        int[] other = {1, -2, -2, -2};
        roomIs(x, 0, other);
        x.pass(3);
        roomIs(x, 1, filled);
        x.leave(1);
        int[] left = {0, -2, -2, 0};
        roomIs(x, 1, left);
        x.dies(0);
        x.fill(1);
        int[] again = {0, 1, 6, 1};
        roomIs(x, 1, again);
        x.dies(1);
        int[] dead = {0, -2, -2, 1};
        roomIs(x, 1, dead);
        check.due("23: what -1", x.roomOf(0, -1), -1);
        check.due("23: what 4", x.roomOf(0, 4), -1);
        check.due("23: room 2", x.roomOf(2, 0), -1);
        check.due("23: room -1", x.roomOf(-1, 0), -1);
    }

    private static void roomIs(AlmsHouse x, int room, int[] due) {
        for (int what = 0; what < due.length; what++) {
            check.due("23: roomOf(" + room + ", " + what + ")", x.roomOf(room, what), due[what]);
        }
    }

    private static void had() {
        AlmsHouse x = Check.open(1, 2);
        x.person(0, 0, false);
        x.person(0, 0, false);
        check.due("24: today isn't past", x.had(0, 0), -1);
        x.pass(2);
        x.fill(0);
        x.pass(3);
        x.leave(0);
        x.fill(1);
        x.leave(1);
        x.dies(0);
        x.fill(1);
        check.due("24: today isn't past", x.had(0, 5), -1);
        x.pass(1);
        x.dies(1);
        x.pass(1);
        int[] first = {-2, -2, 0, 0, 0, -2, -2};
        int[] second = {-2, -2, -2, -2, -2, 1, -2};
        for (int day = 0; day < first.length; day++) {
            check.due("24: had(0, " + day + ")", x.had(0, day), first[day]);
            check.due("24: had(1, " + day + ")", x.had(1, day), second[day]);
        }
        check.due("24: today", x.had(0, 7), -1);
        check.due("24: day -1", x.had(0, -1), -1);
        check.due("24: day 40000", x.had(0, 40000), -1);
        check.due("24: room 2", x.had(2, 0), -1);
        check.due("24: room -1", x.had(-1, 0), -1);
    }
}
