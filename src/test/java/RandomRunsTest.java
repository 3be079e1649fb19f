import java.util.ArrayList;
import java.util.List;
import java.util.Random;
import java.util.Set;
import java.util.TreeSet;

/**
 * Runs of calls, the same in each run of the test, with the class held against Model at every call. A run makes no more
 * calls than the document promises answers for.
 */
public final class RandomRunsTest {
    private static final int RUNS = 4000;
    private static final int CALLS = 512;
    /** A step's most: a will, a tape of fifteen feeds, the scheme, and the three questions behind it. */
    private static final int CALLS_OF_STEP = 20;
    private static final int CALLS_OF_END = 14;
    private static final Check check = new Check();
    /** Each call with the TROUBLE that it left, so that the test can tell whether the runs came to all of them. */
    private static final Set<String> met = new TreeSet<>();
    private static final String[] REFUSALS = {"will 3", "scheme 1", "scheme 2", "scheme 3", "scheme 4", "person 2",
        "person 3", "means 1", "means 2", "means 3", "dies 1", "dies 5", "room 1", "room 3", "trustee 3", "away 1",
        "fill 1", "fill 3", "fill 5", "fill 6", "leave 1", "leave 6", "land 2", "land 3", "dole 2", "pass 2"};

    private enum Step {
        TEXT, FEED, QUESTION, WILL, PERSON, MEANS, DIES, ROOM, TRUSTEE, AWAY, FILL, LEAVE, LAND, DOLE, PASS
    }

    /** How often each step comes, in the order of Step. */
    private enum Kind {
        MIXED(8, 1, 26, 1, 3, 2, 1, 2, 1, 1, 4, 2, 1, 1, 7),
        TEXTS(60, 2, 12, 1, 2, 1, 0, 0, 0, 0, 0, 0, 0, 0, 1),
        ROOMS(0, 0, 8, 0, 3, 1, 1, 2, 1, 2, 40, 30, 0, 0, 5),
        MONEY(0, 0, 8, 0, 2, 0, 0, 1, 1, 0, 3, 1, 4, 2, 30),
        MANY(4, 4, 20, 2, 18, 20, 2, 8, 4, 2, 6, 2, 6, 2, 2);

        final int[] often;
        final int all;

        Kind(int... often) {
            this.often = often;
            int sum = 0;
            for (int one : often) {
                sum += one;
            }
            all = sum;
        }
    }

    private final Random dice;
    private final AlmsHouse x = new AlmsHouse();
    private final Model m = new Model();
    private final int run;
    private final Kind kind;
    private final boolean calm;
    private int calls;

    private RandomRunsTest(int run) {
        this.run = run;
        dice = new Random(run);
        kind = Kind.values()[run % Kind.values().length];
        // Some runs rarely ask for what is refused, so that they come far.
        calm = dice.nextInt(3) != 0;
    }

    public static void main(String[] args) {
        for (int run = 0; run < RUNS; run++) {
            new RandomRunsTest(run).go();
        }
        for (String refusal : REFUSALS) {
            check.due("the runs came to " + refusal, met.contains(refusal), true);
        }
        check.end("RandomRunsTest");
    }

    private void go() {
        if (kind == Kind.ROOMS || kind == Kind.MONEY) {
            furnish();
        }
        while (calls + CALLS_OF_STEP + CALLS_OF_END <= CALLS) {
            step(pick());
        }
        for (int what = -1; what <= 12; what++) {
            due("count(" + what + ")", x.count(what), m.count(what));
        }
        check.due("run " + run + " keeps to 512 calls", calls <= CALLS, true);
    }

    /** A will that lets all come, so that the rooms change hands often. */
    private void furnish() {
        give("put 1 age < 999; order waits", 0, 0);
        for (int i = 0; i < 6; i++) {
            step(Step.ROOM);
            step(Step.PERSON);
        }
        step(Step.TRUSTEE);
        step(Step.LAND);
    }

    private Step pick() {
        int left = dice.nextInt(kind.all);
        int which = 0;
        while (left >= kind.often[which]) {
            left -= kind.often[which];
            which++;
        }
        return Step.values()[which];
    }

    private void due(String call, int got, int want) {
        calls++;
        check.due("run " + run + ": " + call, got, want);
        met.add(call.substring(0, call.indexOf('(')) + " " + m.trouble);
    }

    private void due(String call, boolean got, boolean want) {
        due(call, got ? 1 : 0, want ? 1 : 0);
    }

    private int roll(int from, int to) {
        return from + dice.nextInt(to - from + 1);
    }

    /** A number of those that there are, or one beside them. */
    private int of(int many) {
        if (calm && many > 0 && dice.nextInt(30) != 0) {
            return dice.nextInt(many);
        }
        return roll(-1, many);
    }

    private int day() {
        int odd = dice.nextInt(calm ? 60 : 15);
        if (odd < 2) {
            return odd == 0 ? roll(-2, 0) : roll(39999, 40002);
        }
        return Math.max(0, m.today + roll(-600, 300));
    }

    private void step(Step which) {
        if (which == Step.TEXT) {
            text();
        } else if (which == Step.FEED) {
            feed("put 1 age < 60 ; put", 0);
        } else if (which == Step.QUESTION) {
            question();
        } else {
            deed(which);
        }
        if (which == Step.TEXT && m.fault != 0 || dice.nextInt(4) == 0) {
            due("trouble()", x.trouble(), m.trouble);
            due("where()", x.where(), m.where());
            due("fault()", x.fault(), m.fault);
        }
    }

    private void text() {
        give(new Texts(dice).text(), of(m.wills), day());
    }

    private void give(String text, int will, int day) {
        if (m.wills == 0) {
            due("will()", x.will(), m.will());
        }
        for (int at = 0; at < text.length(); at += 20) {
            feed(text, at);
        }
        int n = dice.nextInt(20) == 0 ? roll(-1, m.tape.length() + 1) : Math.min(text.length(), m.tape.length());
        due("scheme(" + will + ", " + day + ", [" + text + "])", x.scheme(will, day, n), m.scheme(will, day, n));
    }

    private void feed(String text, int at) {
        int[] f = new int[5];
        for (int i = 0; i < 5; i++) {
            f[i] = Check.four(text, at + 4 * i);
        }
        due("feed()", x.feed(f[0], f[1], f[2], f[3], f[4]), m.feed(f));
    }

    private void question() {
        int p = of(m.people.size());
        int w = of(m.wills);
        int r = of(m.rooms.size());
        int d = day();
        int k = roll(-1, 13);
        switch (dice.nextInt(13)) {
            case 0 -> due("clause(" + w + ", " + k + ", " + d + ")", x.clause(w, k, d), m.clause(w, k, d));
            case 1 -> due("clauses(" + w + ", " + d + ")", x.clauses(w, d), m.clauses(w, d));
            case 2 -> due("fact(" + p + ", " + d + ", " + k % 6 + ")", x.fact(p, d, k % 6), m.fact(p, d, k % 6));
            case 3 -> due("may(" + p + ", " + w + ", " + d + ")", x.may(p, w, d), m.may(p, w, d));
            case 4 -> due("bars(" + p + ", " + w + ", " + d + ")", x.bars(p, w, d), m.bars(p, w, d));
            case 5 -> due("order(" + p + ", " + w + ", " + d + ")", x.order(p, w, d), m.order(p, w, d));
            case 6 -> due("list(" + w + ", " + d + ")", x.list(w, d), m.list(w, d));
            case 7 -> due("next(" + w + ", " + d + ")", x.next(w, d), m.next(w, d));
            case 8 -> due("roomOf(" + r + ", " + k % 5 + ")", x.roomOf(r, k % 5), m.roomOf(r, k % 5));
            case 9 -> due("had(" + r + ", " + d + ")", x.had(r, d), m.had(r, d));
            case 10 -> due("owed(" + p + ")", x.owed(p), m.owed(p));
            case 11 -> due("got(" + p + ")", x.got(p), m.got(p));
            default -> due("count(" + k + ")", x.count(k), m.count(k));
        }
    }

    private void deed(Step which) {
        int p = of(m.people.size());
        switch (which) {
            case WILL -> due("will()", x.will(), m.will());
            case PERSON -> person();
            case MEANS -> means(p);
            case DIES -> {
                boolean spared = calm && dice.nextInt(3) != 0;
                if (!spared) {
                    due("dies(" + p + ")", x.dies(p), m.dies(p));
                }
            }
            case ROOM -> {
                int w = of(m.wills);
                due("room(" + w + ")", x.room(w), m.room(w));
            }
            case TRUSTEE -> due("trustee()", x.trustee(), m.trustee());
            case AWAY -> {
                int t = of(m.away.size());
                boolean is = dice.nextBoolean();
                due("away(" + t + ", " + is + ")", x.away(t, is), m.away(t, is));
            }
            case FILL -> fill();
            case LEAVE -> leave();
            case LAND -> land();
            case DOLE -> {
                int v = dice.nextInt(6) == 0 ? roll(-1, 1000) : roll(0, 60);
                due("dole(" + v + ")", x.dole(v), m.dole(v));
            }
            default -> pass();
        }
    }

    private void person() {
        int birth = dice.nextInt(10) == 0 ? roll(-40002, m.today + 1) : m.today - roll(0, 30000);
        int coming = dice.nextInt(10) == 0 ? birth - 1 : birth + dice.nextInt(Math.max(1, m.today - birth + 1));
        boolean kin = dice.nextBoolean();
        due("person(" + birth + ", " + coming + ", " + kin + ")", x.person(birth, coming, kin),
                m.person(birth, coming, kin));
    }

    private void means(int p) {
        int d = day();
        int v = dice.nextInt(8) == 0 ? roll(-1, 10000) : roll(0, 100);
        due("means(" + p + ", " + d + ", " + v + ")", x.means(p, d, v), m.means(p, d, v));
    }

    private void fill() {
        int r = roomThatIs(true);
        due("fill(" + r + ")", x.fill(r), m.fill(r));
    }

    private void leave() {
        int r = roomThatIs(false);
        due("leave(" + r + ")", x.leave(r), m.leave(r));
    }

    /** In calm runs mostly one that can be filled, or left, so that many stays come about. */
    private int roomThatIs(boolean empty) {
        int r = of(m.rooms.size());
        for (int i = 0; i < 4 && calm && m.roomOf(r, 1) != -1 && (m.roomOf(r, 1) == -2) != empty; i++) {
            r = of(m.rooms.size());
        }
        return r;
    }

    private void land() {
        int rent = dice.nextInt(kind == Kind.MONEY ? 2 : 8) == 0 ? roll(-1, 10000) : roll(0, 300);
        int each = dice.nextInt(8) == 0 ? roll(-1, 401) : roll(1, 60);
        int first = m.today + roll(0, 200);
        due("land(" + rent + ", " + each + ", " + first + ")", x.land(rent, each, first), m.land(rent, each, first));
    }

    private void pass() {
        int days = dice.nextInt(kind == Kind.MONEY ? 2 : 8) == 0 ? roll(-1, 401) : roll(1, 30);
        due("pass(" + days + ")", x.pass(days), m.pass(days));
    }

    /** Texts by the grammar, some of them spoilt, some of them near a bound. */
    private static final class Texts {
        private static final String[] SPOIL = {"put", "strike", "order", "or", "and", "not", "age", "kin", "(", ")",
            "<", "=", ">", "+", "*", ";", "0", "13", "7", "12345", "foo", "abcdefghi", "abcdefgh", "#", "A", "\t"};
        private final Random dice;
        private final List<String> tokens = new ArrayList<>();
        private final int depth;

        Texts(Random dice) {
            this.dice = dice;
            depth = dice.nextInt(12) == 0 ? 10 : 2;
        }

        String text() {
            int changes = dice.nextInt(12) == 0 ? 11 + dice.nextInt(4) : 1 + dice.nextInt(3);
            for (int i = 0; i < changes; i++) {
                if (i > 0) {
                    tokens.add(";");
                }
                change(changes > 10);
            }
            for (int spoilt = dice.nextInt(4); spoilt > 2; spoilt--) {
                spoil();
            }
            String text = join();
            return text.length() <= 300 ? text : text.substring(0, 300);
        }

        private void change(boolean small) {
            int kind = dice.nextInt(small ? 12 : 6);
            if (kind == 0) {
                tokens.add("order");
                sum();
            } else if (kind > 4) {
                tokens.add("strike");
                tokens.add("" + number());
            } else {
                tokens.add("put");
                tokens.add("" + number());
                int wide = dice.nextInt(15) == 0 ? 19 + dice.nextInt(4) : 1 + dice.nextInt(4);
                any(wide, 0);
            }
        }

        private int number() {
            return dice.nextInt(40) == 0 ? dice.nextInt(16) : 1 + dice.nextInt(5);
        }

        private void any(int wide, int deep) {
            for (int i = 0; i < wide; i++) {
                if (i > 0) {
                    tokens.add(dice.nextBoolean() ? "or" : "and");
                }
                one(deep);
            }
        }

        private void one(int deep) {
            int nots = dice.nextInt(4) == 0 ? dice.nextInt(dice.nextInt(6) == 0 ? 11 : 3) : 0;
            for (int i = 0; i < nots; i++) {
                tokens.add("not");
            }
            if (deep < depth && (depth == 10 ? dice.nextInt(12) != 0 : dice.nextInt(4) == 0)) {
                tokens.add("(");
                any(depth == 10 ? 1 : 1 + dice.nextInt(3), deep + 1);
                tokens.add(")");
            } else {
                comparison();
            }
        }

        private void comparison() {
            String[] signs = {"<", ">", "="};
            int which = dice.nextInt(5);
            int[] near = {80, 60, 100, 2, 200};
            tokens.add(Model.NAMES.get(which));
            tokens.add(signs[dice.nextInt(3)]);
            tokens.add("" + dice.nextInt(near[which]));
        }

        private void sum() {
            int terms = 1 + dice.nextInt(dice.nextInt(4) == 0 ? 6 : 4);
            for (int i = 0; i < terms; i++) {
                if (i > 0) {
                    tokens.add("+");
                }
                int kind = dice.nextInt(3);
                if (kind > 0) {
                    tokens.add("" + dice.nextInt(dice.nextInt(9) == 0 ? 10000 : 9));
                }
                if (kind == 2) {
                    tokens.add("*");
                }
                if (kind != 1) {
                    tokens.add(Model.NAMES.get(dice.nextInt(5)));
                }
            }
        }

        private void spoil() {
            int at = dice.nextInt(tokens.size());
            String other = SPOIL[dice.nextInt(SPOIL.length)];
            switch (dice.nextInt(4)) {
                case 0 -> tokens.add(at, other);
                case 1 -> tokens.set(at, other);
                case 2 -> tokens.remove(at);
                default -> tokens.subList(at, tokens.size()).clear();
            }
        }

        /** Blanks only where two tokens would grow together, and at times elsewhere. */
        private String join() {
            StringBuilder text = new StringBuilder();
            boolean thrifty = dice.nextBoolean();
            for (String token : tokens) {
                char last = text.length() == 0 ? ' ' : text.charAt(text.length() - 1);
                char first = token.charAt(0);
                boolean grow = Character.isLetter(last) && Character.isLetter(first)
                        || Character.isDigit(last) && Character.isDigit(first);
                if (grow || !thrifty && dice.nextBoolean()) {
                    text.append(' ');
                }
                text.append(token);
            }
            return text.append(" ".repeat(dice.nextInt(8) == 0 ? 3 : 0)).toString();
        }
    }
}
