/** People: what they are on a day, whether they may come, and in what order. */
public final class Promises09To17Test {
    private static final Check check = new Check();

    public static void main(String[] args) {
        personBounds();
        personRoom();
        means();
        meansRefusals();
        dies();
        fact();
        factOfOthers();
        conditions();
        truths();
        mayAndBars();
        mayInTime();
        order();
        greatOrder();
        orderInTime();
        list();
        next();
        nextOfThePast();
        check.end("Promises09To17Test");
    }

    private static void personBounds() {
        AlmsHouse x = new AlmsHouse();
        personIs(x, -40000, -40000, 0, 0);
        personIs(x, 0, 0, 1, 0);
        personIs(x, -40001, 0, -1, 2);
        personIs(x, 1, 1, -1, 2);
        personIs(x, 0, 1, -1, 2);
        personIs(x, -5, -6, -1, 2);
        personIs(x, -5, -5, 2, 0);
        x.pass(10);
        personIs(x, 10, 10, 3, 0);
        personIs(x, 11, 11, -1, 2);
        personIs(x, 9, 11, -1, 2);
        personIs(x, -40000, 10, 4, 0);
        check.due("9: count(2)", x.count(2), 5);
    }

    private static void personIs(AlmsHouse x, int birth, int coming, int due, int trouble) {
        String call = "9: person(" + birth + ", " + coming + ")";
        check.due(call, x.person(birth, coming, false), due);
        check.due(call + " trouble", x.trouble(), trouble);
    }

    private static void personRoom() {
        AlmsHouse x = new AlmsHouse();
        for (int i = 0; i < 40; i++) {
            personIs(x, -i, 0, i, 0);
        }
        personIs(x, 0, 0, -1, 3);
        personIs(x, 1, 0, -1, 2);
        check.due("9: count(2)", x.count(2), 40);
    }

    private static void means() {
        AlmsHouse x = new AlmsHouse();
        x.person(0, 0, false);
        x.person(0, 0, false);
        check.due("10: first", x.means(0, 100, 50), 1);
        check.due("10: ahead of it", x.means(0, 20, 9999), 2);
        check.due("10: 0 ahead of the first", x.fact(0, 19, 2), 0);
        check.due("10: from its day on", x.fact(0, 20, 2), 9999);
        check.due("10: the day before the later", x.fact(0, 99, 2), 9999);
        check.due("10: the later", x.fact(0, 100, 2), 50);
        check.due("10: for good", x.fact(0, 40000, 2), 50);
        check.due("10: of one day", x.means(0, 100, 0), 3);
        check.due("10: the latest told", x.fact(0, 100, 2), 0);
        check.due("10: of one day ahead", x.means(0, 20, 7), 4);
        check.due("10: the latest told ahead", x.fact(0, 99, 2), 7);
        check.due("10: the later day stays", x.fact(0, 100, 2), 0);
        check.due("10: of another", x.fact(1, 100, 2), 0);
        check.due("10: another's", x.means(1, 0, 3), 1);
        check.due("10: on day 0", x.fact(1, 0, 2), 3);
    }

    private static void meansRefusals() {
        AlmsHouse x = new AlmsHouse();
        x.person(0, 0, false);
        meansIs(x, 1, -1, 1, -1, 1);
        meansIs(x, -1, 0, 1, -1, 1);
        meansIs(x, 0, -1, 1, -1, 2);
        meansIs(x, 0, 40001, 1, -1, 2);
        meansIs(x, 0, 0, -1, -1, 2);
        meansIs(x, 0, 0, 10000, -1, 2);
        for (int i = 1; i <= 6; i++) {
            meansIs(x, 0, 40000, i, i, 0);
        }
        meansIs(x, 0, 0, 1, -1, 3);
        meansIs(x, 0, 0, 10000, -1, 2);
        check.due("10: kept", x.fact(0, 40000, 2), 6);
        x.person(0, 0, false);
        x.dies(1);
        meansIs(x, 1, 0, 4, 1, 0);
    }

    private static void meansIs(AlmsHouse x, int person, int day, int v, int due, int trouble) {
        String call = "10: means(" + person + ", " + day + ", " + v + ")";
        check.due(call, x.means(person, day, v), due);
        check.due(call + " trouble", x.trouble(), trouble);
    }

    private static void dies() {
        AlmsHouse x = Check.open(1, 1);
        check.due("11: nobody", x.dies(0), false);
        check.due("11: trouble", x.trouble(), 1);
        x.person(0, 0, false);
        x.person(0, 0, false);
        x.fill(0);
        x.pass(7);
        check.due("11: owed", x.owed(0), 10);
        check.due("11: dies", x.dies(0), true);
        check.due("11: trouble", x.trouble(), 0);
        check.due("11: room", x.roomOf(0, 1), -2);
        check.due("11: empty ones", x.count(4), 1);
        check.due("11: nothing is owed", x.owed(0), 0);
        check.due("11: from today on", x.may(0, 0, 7), 0);
        check.due("11: not ahead", x.may(0, 0, 6), 1);
        check.due("11: again", x.dies(0), false);
        check.due("11: trouble", x.trouble(), 5);
        check.due("11: -1", x.dies(-1), false);
        check.due("11: trouble", x.trouble(), 1);
        check.due("11: without a room", x.dies(1), true);
        check.due("11: the dead aren't next", x.next(0, 7), -2);
        check.due("11: the dead are counted", x.count(2), 2);
        x.pass(7);
        check.due("11: nothing owed later", x.owed(0), 0);
        check.due("11: bars don't ask", x.bars(0, 0, 14), -2);
        check.due("11: facts go on", x.fact(0, 14, 4), 14);
    }

    private static void fact() {
        AlmsHouse x = new AlmsHouse();
        x.pass(400);
        x.person(-364, 36, true);
        x.person(400, 400, false);
        factIs(x, 0, 0, 0, 0);
        factIs(x, 0, 1, 0, 1);
        factIs(x, 0, 365, 0, 1);
        factIs(x, 0, 366, 0, 2);
        factIs(x, 0, 0, 1, 0);
        factIs(x, 0, 400, 1, 0);
        factIs(x, 0, 401, 1, 1);
        factIs(x, 0, 40000, 1, 109);
        factIs(x, 0, 0, 3, 1);
        factIs(x, 1, 0, 3, 0);
        factIs(x, 0, 0, 4, 0);
        factIs(x, 0, 400, 4, 0);
        factIs(x, 0, 401, 4, 1);
        factIs(x, 0, 40000, 4, 39600);
        factIs(x, 1, 0, 0, 0);
        factIs(x, 1, 0, 1, 0);
        factIs(x, 1, 764, 0, 0);
        factIs(x, 1, 765, 0, 1);
    }

    private static void factIs(AlmsHouse x, int person, int day, int what, int due) {
        check.due("12: fact(" + person + ", " + day + ", " + what + ")", x.fact(person, day, what), due);
    }

    private static void factOfOthers() {
        AlmsHouse x = new AlmsHouse();
        x.person(0, 0, true);
        x.dies(7);
        factIs(x, 1, 0, 0, -1);
        factIs(x, -1, 0, 0, -1);
        factIs(x, 0, -1, 3, -1);
        factIs(x, 0, 40001, 3, -1);
        factIs(x, 0, 40000, 3, 1);
        factIs(x, 0, 0, -1, -1);
        factIs(x, 0, 0, 5, -1);
        check.due("12: trouble stays", x.trouble(), 1);
    }

    /** Whether a condition holds for a person of age 50, 20 years here, means 300, kin, on day 10. */
    private static void holds(String any, boolean due) {
        AlmsHouse x = Check.withWills(1);
        Check.scheme(x, 0, 0, "put 5 " + any);
        x.person(-50 * 365, -20 * 365, true);
        x.means(0, 0, 300);
        check.due("14: [" + any + "]", x.bars(0, 0, 10), due ? -2 : 5);
        check.due("13: [" + any + "]", x.may(0, 0, 10), due ? 1 : 0);
    }

    private static void conditions() {
        holds("age > 49", true);
        holds("age > 50", false);
        holds("age < 51", true);
        holds("age < 50", false);
        holds("age = 50", true);
        holds("age = 49", false);
        holds("years = 20", true);
        holds("means = 300", true);
        holds("kin = 1", true);
        holds("kin > 1", false);
        holds("waits = 10", true);
        holds("waits < 9999", true);
        holds("not age = 50", false);
        holds("not not age = 50", true);
        holds("not age = 1 and age = 50", true);
        holds("not (age = 50 and kin = 0)", true);
        holds("not (age = 50 or kin = 0)", false);
        // and binds closer than or
        holds("kin = 1 or kin = 1 and kin = 0", true);
        holds("kin = 0 and kin = 0 or kin = 1", true);
        holds("(kin = 1 or kin = 1) and kin = 0", false);
        holds("kin = 0 and (kin = 0 or kin = 1)", false);
        holds("kin = 0 or kin = 0 or kin = 1", true);
        holds("kin = 1 or kin = 0 or kin = 0", true);
        holds("kin = 1 and kin = 1 and kin = 0", false);
        holds("kin = 0 and kin = 1 and kin = 1", false);
        holds("kin = 0 or kin = 1 and kin = 1 or kin = 0", true);
        // not binds closest
        holds("not kin = 1 or kin = 1", true);
        holds("not kin = 0 and kin = 0", false);
        holds("not (kin = 1) or kin = 1", true);
        holds("((((((((kin = 0)))))))) or not not not kin = 0", true);
        holds("kin = 0 or (kin = 0 or (kin = 0 or (kin = 0 or (kin = 1 and not kin = 0))))", true);
        holds(Check.repeat("kin=0", 19, "or ") + "or kin=1", true);
        holds(Check.repeat("kin=0", 20, "or "), false);
        holds(Check.repeat("kin=1", 19, "and ") + "and kin=0", false);
        holds("kin=1or(" + Check.repeat("kin=0and(", 7, "") + "kin=1" + "))))))))", true);
    }

    /** All ways to join four truths by "and" and "or". */
    private static void truths() {
        for (int bits = 0; bits < 128; bits++) {
            boolean[] t = new boolean[4];
            String[] s = new String[4];
            for (int i = 0; i < 4; i++) {
                t[i] = (bits >> i & 1) == 1;
                s[i] = t[i] ? "kin=1" : "kin=0";
            }
            String[] joints = new String[3];
            // What "and" joins is one truth; any of these is enough.
            boolean any = false;
            boolean all = t[0];
            for (int i = 0; i < 3; i++) {
                boolean and = (bits >> 4 + i & 1) == 1;
                joints[i] = and ? " and " : " or ";
                any = any || !and && all;
                all = and ? all && t[i + 1] : t[i + 1];
            }
            boolean due = any || all;
            holds(s[0] + joints[0] + s[1] + joints[1] + s[2] + joints[2] + s[3], due);
            holds("not (" + s[0] + joints[0] + s[1] + joints[1] + s[2] + joints[2] + s[3] + ")", !due);
            boolean left = joints[0].equals(" and ") ? t[0] && t[1] : t[0] || t[1];
            boolean right = joints[2].equals(" and ") ? t[2] && t[3] : t[2] || t[3];
            boolean both = joints[1].equals(" and ") ? !left && !right : !left || !right;
            holds("not (" + s[0] + joints[0] + s[1] + ")" + joints[1] + "not (" + s[2] + joints[2] + s[3] + ")", both);
        }
    }

    private static void mayAndBars() {
        AlmsHouse x = Check.withWills(3);
        x.person(-60 * 365, -10 * 365, false);
        check.due("13: no clause", x.may(0, 0, 0), 0);
        check.due("14: no clause", x.bars(0, 0, 0), -2);
        Check.scheme(x, 0, 0, "put 2 age > 50; put 7 kin = 1; put 9 years > 20");
        check.due("14: the first by number", x.bars(0, 0, 0), 7);
        check.due("13: barred", x.may(0, 0, 0), 0);
        Check.scheme(x, 0, 5, "strike 7");
        check.due("14: the next", x.bars(0, 0, 5), 9);
        Check.scheme(x, 0, 6, "strike 9");
        check.due("14: none", x.bars(0, 0, 6), -2);
        check.due("13: may", x.may(0, 0, 6), 1);
        Check.scheme(x, 1, 0, "put 12 kin = 1");
        check.due("14: the twelfth", x.bars(0, 1, 0), 12);
        check.due("13: the twelfth", x.may(0, 1, 0), 0);
        Check.scheme(x, 2, 0, "put 1 kin = 1; put 12 kin = 1");
        check.due("14: the first", x.bars(0, 2, 0), 1);
        Check.scheme(x, 0, 7, "strike 2; order age");
        check.due("13: none any more", x.may(0, 0, 7), 0);
        int[][] others = {{1, 0, 0}, {-1, 0, 0}, {0, 3, 0}, {0, -1, 0}, {0, 0, -1}, {0, 0, 40001}};
        for (int[] of : others) {
            String call = of[0] + ", " + of[1] + ", " + of[2];
            check.due("13: may(" + call + ")", x.may(of[0], of[1], of[2]), -1);
            check.due("14: bars(" + call + ")", x.bars(of[0], of[1], of[2]), -1);
            check.due("15: order(" + call + ")", x.order(of[0], of[1], of[2]), -1);
        }
        check.due("13: on day 40000", x.may(0, 0, 40000), 0);
    }

    private static void mayInTime() {
        AlmsHouse x = Check.open(0, 0);
        x.pass(20);
        x.person(0, 0, false);
        check.due("13: ahead of asking", x.may(0, 0, 19), 0);
        check.due("13: on the day of asking", x.may(0, 0, 20), 1);
        check.due("14: bars ahead of asking", x.bars(0, 0, 19), -2);
        x.pass(5);
        x.dies(0);
        check.due("13: the day ahead of death", x.may(0, 0, 24), 1);
        check.due("13: the day of death", x.may(0, 0, 25), 0);
        check.due("13: behind death", x.may(0, 0, 26), 0);
        check.due("16: list on the day of asking", x.list(0, 20), 1);
        check.due("16: list on the day of death", x.list(0, 25), 0);
    }

    private static void order() {
        AlmsHouse x = Check.withWills(2);
        x.person(-50 * 365, -20 * 365, true);
        x.means(0, 0, 300);
        check.due("15: none", x.order(0, 0, 0), 0);
        orderIs(x, "order age", 50);
        orderIs(x, "order 3*age", 150);
        orderIs(x, "order 7", 7);
        orderIs(x, "order 0*age", 0);
        orderIs(x, "order age+age", 100);
        orderIs(x, "order 2*age+years+3*means+500*kin", 100 + 20 + 900 + 500);
        orderIs(x, "order waits + 9999", 10 + 9999);
        orderIs(x, "order 1+2+3+4", 10);
        orderIs(x, "order age; order years", 20);
        check.due("15: of another will", x.order(0, 1, 10), 0);
        check.due("15: who may not come", x.may(0, 0, 10), 0);
    }

    private static void orderIs(AlmsHouse x, String text, int due) {
        Check.scheme(x, 0, 0, text);
        check.due("15: [" + text + "]", x.order(0, 0, 10), due);
    }

    private static void greatOrder() {
        AlmsHouse x = Check.withWills(1);
        x.person(0, 0, false);
        Check.scheme(x, 0, 0, "order 9999*waits+9999*waits+9999*waits+9999*waits");
        check.due("15: the greatest", x.order(0, 0, 40000), 1599840000);
    }

    private static void orderInTime() {
        AlmsHouse x = Check.withWills(1);
        x.person(0, 0, false);
        Check.scheme(x, 0, 20, "order 2");
        Check.scheme(x, 0, 10, "order 1");
        check.due("15: ahead", x.order(0, 0, 9), 0);
        check.due("15: from its day", x.order(0, 0, 10), 1);
        check.due("15: the later day", x.order(0, 0, 20), 2);
        Check.scheme(x, 0, 20, "order 3;strike 1");
        check.due("15: of one day the later told", x.order(0, 0, 20), 3);
        check.due("15: on day 40000", x.order(0, 0, 40000), 3);
    }

    private static void list() {
        AlmsHouse x = Check.withWills(2);
        Check.scheme(x, 0, 0, "put 1 age > 39");
        for (int i = 0; i < 40; i++) {
            x.person(-i * 2 * 365, 0, false);
        }
        check.due("16: list", x.list(0, 0), 20);
        check.due("16: another day", x.list(0, 365), 20);
        check.due("16: two years on", x.list(0, 730), 21);
        check.due("16: another will", x.list(1, 0), 0);
        x.trustee();
        x.room(0);
        x.fill(0);
        check.due("16: with those that have rooms", x.list(0, 0), 20);
        check.due("16: no such will", x.list(2, 0), -1);
        check.due("16: will -1", x.list(-1, 0), -1);
        check.due("16: day -1", x.list(0, -1), -1);
        check.due("16: day 40001", x.list(0, 40001), -1);
        check.due("16: day 40000", x.list(0, 40000), 40);
    }

    private static void next() {
        AlmsHouse x = Check.withWills(2);
        check.due("17: nobody", x.next(0, 0), -2);
        Check.scheme(x, 0, 0, "put 1 means < 100; order years");
        x.person(-100 * 365, 0, false);
        x.person(-100 * 365, -10 * 365, false);
        x.person(-100 * 365, -20 * 365, false);
        x.person(-100 * 365, -20 * 365, false);
        check.due("17: the greatest, the first by number", x.next(0, 0), 2);
        x.means(2, 0, 100);
        check.due("17: who may come", x.next(0, 0), 3);
        x.trustee();
        x.room(0);
        x.room(0);
        x.fill(0);
        check.due("17: who has no room", x.next(0, 0), 1);
        x.pass(1);
        x.person(-100 * 365, -10 * 365 + 1, false);
        check.due("17: who asked first", x.next(0, 1000), 1);
        x.person(-100 * 365, -11 * 365, false);
        check.due("17: the greater asked later", x.next(0, 1), 5);
        check.due("17: had not asked then", x.next(0, 0), 1);
        x.leave(0);
        check.due("17: who left", x.next(0, 0), 3);
        check.due("17: another will", x.next(1, 1), -2);
        check.due("17: no such will", x.next(2, 1), -1);
        check.due("17: will -1", x.next(-1, 1), -1);
        check.due("17: day -1", x.next(0, -1), -1);
        check.due("17: day 40001", x.next(0, 40001), -1);
    }

    private static void nextOfThePast() {
        AlmsHouse x = Check.open(1, 1);
        Check.scheme(x, 0, 0, "order age");
        x.person(-5000, 0, false);
        x.person(-1000, 0, false);
        x.pass(5);
        x.dies(0);
        check.due("17: not dead then", x.next(0, 4), 0);
        check.due("17: dead then", x.next(0, 5), 1);
        x.fill(0);
        check.due("17: has a room today", x.next(0, 5), -2);
        check.due("17: a room today counts on each day", x.next(0, 0), 0);
    }
}
