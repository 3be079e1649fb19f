import java.util.ArrayList;
import java.util.List;
import java.util.function.Consumer;
import java.util.function.Supplier;
import java.util.function.ToIntFunction;

/**
 * Each call that the document refuses leaves all else as it was: a house on which it was tried and a twin on which it
 * wasn't tell the same, then and later. A question that answers NONE leaves TROUBLE too.
 */
public final class RefusedCallsTest {
    private static final int MIN = Integer.MIN_VALUE;
    private static final int MAX = Integer.MAX_VALUE;
    private static final Check check = new Check();

    public static void main(String[] args) {
        noneSuch();
        numbers();
        alreadyOrNobody();
        noRoom();
        fullTape();
        faults();
        questions();
        check.end("RefusedCallsTest");
    }

    // ---- the houses

    /** Some of everything: two rooms that are filled, one that is left, one dead, debts, and bytes on the tape. */
    private static AlmsHouse house() {
        AlmsHouse x = Check.open(3, 3);
        x.will();
        x.room(1);
        Check.scheme(x, 0, 5, "put 2 means<50;order means");
        Check.scheme(x, 0, 0, "strike 0");
        for (int i = 0; i < 5; i++) {
            x.person(-1000 * i, 0, i == 2);
            x.means(i, i, 10 * i);
        }
        x.fill(0);
        x.fill(1);
        x.fill(2);
        x.land(12, 7, 7);
        x.away(1, true);
        x.pass(8);
        x.leave(1);
        x.dies(4);
        Check.feed(x, "strike 2");
        return x;
    }

    private static AlmsHouse filled(Consumer<AlmsHouse> fills) {
        AlmsHouse x = house();
        fills.accept(x);
        return x;
    }

    private static Consumer<AlmsHouse> times(int times, Consumer<AlmsHouse> call) {
        return x -> {
            for (int i = 0; i < times; i++) {
                call.accept(x);
            }
        };
    }

    /** All that can be asked of a house, but for TROUBLE and the place of a FAULT. */
    private static List<Integer> told(AlmsHouse x) {
        List<Integer> all = new ArrayList<>();
        for (int what = 0; what <= 11; what++) {
            all.add(x.count(what));
        }
        all.add(x.fault());
        int today = x.count(7);
        for (int will = 0; will < 3; will++) {
            all.add(x.clauses(will, today));
            all.add(x.list(will, today));
            all.add(x.next(will, today));
            all.add(x.clause(will, 2, today));
        }
        for (int person = 0; person < 6; person++) {
            all.add(x.owed(person));
            all.add(x.got(person));
            all.add(x.fact(person, today, 2));
            all.add(x.may(person, 0, today));
        }
        for (int room = 0; room < 5; room++) {
            for (int what = 1; what <= 3; what++) {
                all.add(x.roomOf(room, what));
            }
            all.add(x.had(room, today - 1));
        }
        return all;
    }

    /** Days go, the tape is read, and rooms are filled: so what no question tells comes out. */
    private static List<Integer> later(AlmsHouse x) {
        List<Integer> all = new ArrayList<>();
        all.add(x.fill(1));
        all.add(x.scheme(0, 9, 8));
        all.add(x.pass(6));
        all.add(x.leave(0));
        all.add(x.fill(0));
        all.add(x.pass(1));
        all.addAll(told(x));
        return all;
    }

    // ---- refusals

    private static void refused(String call, Supplier<AlmsHouse> house, ToIntFunction<AlmsHouse> tries, int trouble) {
        AlmsHouse x = house.get();
        AlmsHouse twin = house.get();
        check.due(call, tries.applyAsInt(x), -1, x, trouble);
        check.due(call + ": where()", x.where(), -1);
        check.due(call + " leaves all", told(x).equals(told(twin)), true);
        check.due(call + " leaves what comes later", later(x).equals(later(twin)), true);
    }

    private static void refused(String call, ToIntFunction<AlmsHouse> tries, int trouble) {
        refused(call, RefusedCallsTest::house, tries, trouble);
    }

    private static int answer(boolean done) {
        return done ? 1 : -1;
    }

    private static void noneSuch() {
        check.says("VI", "1 there is none such");
        int[] beyond = {MIN, -1, 40, MAX};
        for (int i : beyond) {
            refused("4: scheme(" + i + ", 0, 8)", x -> x.scheme(i, 0, 8), 1);
            refused("10: means(" + i + ", 0, 1)", x -> x.means(i, 0, 1), 1);
            refused("11: dies(" + i + ")", x -> answer(x.dies(i)), 1);
            refused("18: room(" + i + ")", x -> x.room(i), 1);
            refused("20: away(" + i + ", true)", x -> answer(x.away(i, true)), 1);
            refused("21: fill(" + i + ")", x -> x.fill(i), 1);
            refused("22: leave(" + i + ")", x -> x.leave(i), 1);
        }
        // The first number that there isn't.
        refused("4: scheme(2, 0, 8)", x -> x.scheme(2, 0, 8), 1);
        refused("10: means(5, 0, 1)", x -> x.means(5, 0, 1), 1);
        refused("11: dies(5)", x -> answer(x.dies(5)), 1);
        refused("18: room(2)", x -> x.room(2), 1);
        refused("20: away(3, true)", x -> answer(x.away(3, true)), 1);
        refused("21: fill(4)", x -> x.fill(4), 1);
        refused("22: leave(4)", x -> x.leave(4), 1);
    }

    private static void numbers() {
        check.says("VI", "2 a number");
        int[] days = {MIN, -1, 40001, MAX};
        for (int day : days) {
            refused("4: scheme(0, " + day + ", 8)", x -> x.scheme(0, day, 8), 2);
            refused("10: means(0, " + day + ", 1)", x -> x.means(0, day, 1), 2);
            refused("25: land(1, 1, " + day + ")", x -> x.land(1, 1, day), 2);
            refused("27: pass(" + day + ")", x -> x.pass(day), 2);
        }
        refused("4: scheme(0, 0, -1)", x -> x.scheme(0, 0, -1), 2);
        refused("4: scheme(0, 0, 21)", x -> x.scheme(0, 0, 21), 2);
        refused("9: person(-40001, 0, false)", x -> x.person(-40001, 0, false), 2);
        refused("9: person(9, 9, false)", x -> x.person(9, 9, false), 2);
        refused("9: person(0, 9, false)", x -> x.person(0, 9, false), 2);
        refused("9: person(1, 0, false)", x -> x.person(1, 0, false), 2);
        refused("10: means(0, 0, -1)", x -> x.means(0, 0, -1), 2);
        refused("10: means(0, 0, 10000)", x -> x.means(0, 0, 10000), 2);
        refused("25: land(-1, 1, 9)", x -> x.land(-1, 1, 9), 2);
        refused("25: land(10000, 1, 9)", x -> x.land(10000, 1, 9), 2);
        refused("25: land(1, 0, 9)", x -> x.land(1, 0, 9), 2);
        refused("25: land(1, 401, 9)", x -> x.land(1, 401, 9), 2);
        refused("25: land(1, 1, 8)", x -> x.land(1, 1, 8), 2);
        refused("26: dole(-1)", x -> answer(x.dole(-1)), 2);
        refused("26: dole(1000)", x -> answer(x.dole(1000)), 2);
        refused("27: pass(0)", x -> x.pass(0), 2);
        refused("27: pass(401)", x -> x.pass(401), 2);
        Consumer<AlmsHouse> nearTheEnd = times(99, x -> x.pass(400)).andThen(x -> x.pass(384));
        refused("27: pass(9) of 8 days that are left", () -> filled(nearTheEnd), x -> x.pass(9), 2);
    }

    private static void alreadyOrNobody() {
        check.says("VI", "5 it has one already, or is DEAD");
        refused("11: dies(4)", x -> answer(x.dies(4)), 5);
        refused("21: fill(0)", x -> x.fill(0), 5);
        check.says("VI", "6 nobody (no TRUSTEE, no NEXT)");
        refused("21: fill(3), no next", x -> x.fill(3), 6);
        Consumer<AlmsHouse> allAway = x -> {
            x.away(0, true);
            x.away(2, true);
        };
        refused("21: fill(1), no trustee", () -> filled(allAway), x -> x.fill(1), 6);
        refused("22: leave(1)", x -> x.leave(1), 6);
    }

    private static void noRoom() {
        check.says("VI", "3 no room");
        refused("2: will()", () -> filled(times(2, AlmsHouse::will)), AlmsHouse::will, 3);
        refused("9: person(0, 0, true)", () -> filled(times(35, x -> x.person(0, 0, false))), x -> x.person(0, 0, true), 3);
        refused("10: means(1, 2, 49)", () -> filled(times(5, x -> x.means(1, 2, 1))), x -> x.means(1, 2, 49), 3);
        refused("18: room(0)", () -> filled(times(16, x -> x.room(0))), x -> x.room(0), 3);
        refused("19: trustee()", () -> filled(times(5, AlmsHouse::trustee)), AlmsHouse::trustee, 3);
        refused("25: land(99, 1, 9)", () -> filled(times(9, x -> x.land(1, 1, 9))), x -> x.land(99, 1, 9), 3);
        Consumer<AlmsHouse> stays = times(97, x -> {
            x.fill(1);
            x.leave(1);
        });
        refused("21: fill(1)", () -> filled(stays), x -> x.fill(1), 3);
        fullOfSchemes();
    }

    /** Such a scheme empties the tape and has no FAULT, and leaves all else. */
    private static void fullOfSchemes() {
        Supplier<AlmsHouse> full = () -> filled(x -> {
            x.scheme(0, 0, 0);
            for (int i = 2; i < 40; i++) {
                Check.scheme(x, 1, 0, "strike 1");
            }
        });
        AlmsHouse x = full.get();
        AlmsHouse twin = full.get();
        check.due("4: a 41st scheme", Check.scheme(x, 0, 0, "strike 1;put 3 kin=1;order age"), -1, x, 3);
        check.due("4: a 41st scheme leaves all", told(x).equals(told(twin)), true);
        check.due("4: a 41st scheme leaves what comes later", later(x).equals(later(twin)), true);
    }

    private static void fullTape() {
        check.says("3", "NONE, and none comes, if there would be more than 300");
        Supplier<AlmsHouse> full = () -> filled(x -> {
            Check.feed(x, " ".repeat(280));
            x.pass(0);
        });
        AlmsHouse x = full.get();
        AlmsHouse twin = full.get();
        // No number of TROUBLE is named for it: it leaves the one that was.
        check.due("feed()", x.feed(MIN, -1, 0, 1, MAX), -1, x, 2);
        check.due("feed() leaves all", told(x).equals(told(twin)), true);
        check.due("feed() leaves what comes later", later(x).equals(later(twin)), true);
    }

    /** A text with a FAULT at its end does nothing of what stood ahead of it; it empties the tape. */
    private static void faults() {
        check.says("4", "NONE: 1, 2 (both leave THE TAPE); 4; 3.");
        String[] faulty = {"put 1 kin=1;order age;strike 2;", "put 1 kin=1;order foo", "put 1 kin=1;strike 2;strike 13",
            "order age;put 1 kin=1;order 1+1+1+1+1"};
        for (int i = 0; i < faulty.length; i++) {
            AlmsHouse x = house();
            AlmsHouse twin = house();
            x.scheme(0, 0, 0);
            check.due(faulty[i], Check.scheme(x, 0, 0, faulty[i]), -1, x, 4);
            check.due(faulty[i] + ": fault()", x.fault(), i + 1);
            twin.scheme(0, 0, 0);
            List<Integer> due = told(twin);
            due.set(12, i + 1);
            check.due(faulty[i] + " leaves all but the tape", told(x).equals(due), true);
        }
    }

    // ---- questions

    private static void unanswered(String call, ToIntFunction<AlmsHouse> asks) {
        for (int trouble = 0; trouble <= 4; trouble += 2) {
            AlmsHouse x = withTrouble(trouble);
            AlmsHouse twin = withTrouble(trouble);
            check.due(call, asks.applyAsInt(x), -1, x, trouble);
            check.due(call + ": where()", x.where(), trouble == 4 ? 7 : -1);
            check.due(call + " leaves all", told(x).equals(told(twin)), true);
        }
    }

    private static AlmsHouse withTrouble(int trouble) {
        AlmsHouse x = house();
        x.scheme(0, 0, 0);
        if (trouble == 0) {
            x.dole(10);
        } else if (trouble == 2) {
            x.pass(0);
        } else {
            Check.scheme(x, 0, 0, "strike 0");
        }
        return x;
    }

    private static void questions() {
        check.says("VI", "TROUBLE of the latest call that may be refused");
        int[] beyond = {MIN, -1, 40, MAX};
        for (int i : beyond) {
            unanswered("7: clause(" + i + ", 1, 0)", x -> x.clause(i, 1, 0));
            unanswered("7: clause(0, " + i + ", 0)", x -> x.clause(0, i, 0));
            unanswered("8: clauses(" + i + ", 0)", x -> x.clauses(i, 0));
            unanswered("12: fact(" + i + ", 0, 0)", x -> x.fact(i, 0, 0));
            unanswered("12: fact(0, 0, " + i + ")", x -> x.fact(0, 0, i));
            unanswered("13: may(" + i + ", 0, 0)", x -> x.may(i, 0, 0));
            unanswered("13: may(0, " + i + ", 0)", x -> x.may(0, i, 0));
            unanswered("14: bars(" + i + ", 0, 0)", x -> x.bars(i, 0, 0));
            unanswered("14: bars(0, " + i + ", 0)", x -> x.bars(0, i, 0));
            unanswered("15: order(" + i + ", 0, 0)", x -> x.order(i, 0, 0));
            unanswered("15: order(0, " + i + ", 0)", x -> x.order(0, i, 0));
            unanswered("16: list(" + i + ", 0)", x -> x.list(i, 0));
            unanswered("17: next(" + i + ", 0)", x -> x.next(i, 0));
            unanswered("23: roomOf(" + i + ", 0)", x -> x.roomOf(i, 0));
            unanswered("23: roomOf(0, " + i + ")", x -> x.roomOf(0, i));
            unanswered("24: had(" + i + ", 0)", x -> x.had(i, 0));
            unanswered("24: had(0, " + i + ")", x -> x.had(0, i));
            unanswered("28: owed(" + i + ")", x -> x.owed(i));
            unanswered("29: got(" + i + ")", x -> x.got(i));
            unanswered("30: count(" + i + ")", x -> x.count(i));
        }
        int[] days = {MIN, -1, 40001, MAX};
        for (int day : days) {
            unanswered("7: clause(0, 1, " + day + ")", x -> x.clause(0, 1, day));
            unanswered("8: clauses(0, " + day + ")", x -> x.clauses(0, day));
            unanswered("12: fact(0, " + day + ", 0)", x -> x.fact(0, day, 0));
            unanswered("13: may(0, 0, " + day + ")", x -> x.may(0, 0, day));
            unanswered("14: bars(0, 0, " + day + ")", x -> x.bars(0, 0, day));
            unanswered("15: order(0, 0, " + day + ")", x -> x.order(0, 0, day));
            unanswered("16: list(0, " + day + ")", x -> x.list(0, day));
            unanswered("17: next(0, " + day + ")", x -> x.next(0, day));
            unanswered("24: had(0, " + day + ")", x -> x.had(0, day));
        }
        unanswered("24: had(0, today)", x -> x.had(0, 8));
    }
}
