import java.util.ArrayList;
import java.util.List;
import java.util.Random;

/** Long runs of calls, the same in each run of the test, with the class held against Model at every call. */
public final class RandomRunsTest {
    private static final int RUNS = 1500;
    private static final int CALLS = 512;
    private static final Check check = new Check();

    private final Random dice;
    private final AlmsHouse x = new AlmsHouse();
    private final Model m = new Model();
    private final int run;
    private final boolean calm;

    private RandomRunsTest(int run) {
        this.run = run;
        dice = new Random(run);
        // Some runs rarely ask for what is refused, so that they come far.
        calm = run % 3 != 0;
    }

    public static void main(String[] args) {
        for (int run = 0; run < RUNS; run++) {
            new RandomRunsTest(run).go();
        }
        check.end("RandomRunsTest");
    }

    private void go() {
        for (int call = 0; call < CALLS; call++) {
            one(dice.nextInt(60));
        }
        for (int what = -1; what <= 12; what++) {
            due("count(" + what + ")", x.count(what), m.count(what));
        }
    }

    private void due(String call, int got, int want) {
        check.due("run " + run + ": " + call, got, want);
    }

    private void due(String call, boolean got, boolean want) {
        check.due("run " + run + ": " + call, got, want);
    }

    private int roll(int from, int to) {
        return from + dice.nextInt(to - from + 1);
    }

    /** A number of those that there are, or one beside them. */
    private int of(int many) {
        if (calm && many > 0 && dice.nextInt(30) != 0) {
            return dice.nextInt(many);
        }
        return roll(-1, many);
    }

    private int day() {
        int odd = dice.nextInt(calm ? 60 : 15);
        if (odd < 2) {
            return odd == 0 ? roll(-2, 0) : roll(39999, 40002);
        }
        return Math.max(0, m.today + roll(-600, 300));
    }

    private void one(int which) {
        if (which < 8) {
            text();
        } else if (which < 34) {
            question(which);
        } else {
            deed(which);
        }
        due("trouble()", x.trouble(), m.trouble);
        due("where()", x.where(), m.where());
        due("fault()", x.fault(), m.fault);
    }

    private void text() {
        if (m.wills == 0) {
            due("will()", x.will(), m.will());
        }
        String text = new Texts(dice).text();
        for (int at = 0; at < text.length(); at += 20) {
            int[] f = new int[5];
            for (int i = 0; i < 5; i++) {
                f[i] = Check.four(text, at + 4 * i);
            }
            due("feed()", x.feed(f[0], f[1], f[2], f[3], f[4]), m.feed(f));
        }
        int will = of(m.wills);
        int day = day();
        int n = dice.nextInt(20) == 0 ? roll(-1, m.tape.length() + 1) : Math.min(text.length(), m.tape.length());
        due("scheme(" + will + ", " + day + ", [" + text + "])", x.scheme(will, day, n), m.scheme(will, day, n));
    }

    private void question(int which) {
        int p = of(m.people.size());
        int w = of(m.wills);
        int r = of(m.rooms.size());
        int d = day();
        int k = roll(-1, 13);
        switch (which % 13) {
            case 0 -> due("clause(" + w + ", " + k + ", " + d + ")", x.clause(w, k, d), m.clause(w, k, d));
            case 1 -> due("clauses(" + w + ", " + d + ")", x.clauses(w, d), m.clauses(w, d));
            case 2 -> due("fact(" + p + ", " + d + ", " + k % 6 + ")", x.fact(p, d, k % 6), m.fact(p, d, k % 6));
            case 3 -> due("may(" + p + ", " + w + ", " + d + ")", x.may(p, w, d), m.may(p, w, d));
            case 4 -> due("bars(" + p + ", " + w + ", " + d + ")", x.bars(p, w, d), m.bars(p, w, d));
            case 5 -> due("order(" + p + ", " + w + ", " + d + ")", x.order(p, w, d), m.order(p, w, d));
            case 6 -> due("list(" + w + ", " + d + ")", x.list(w, d), m.list(w, d));
            case 7 -> due("next(" + w + ", " + d + ")", x.next(w, d), m.next(w, d));
            case 8 -> due("roomOf(" + r + ", " + k % 5 + ")", x.roomOf(r, k % 5), m.roomOf(r, k % 5));
            case 9 -> due("had(" + r + ", " + d + ")", x.had(r, d), m.had(r, d));
            case 10 -> due("owed(" + p + ")", x.owed(p), m.owed(p));
            case 11 -> due("got(" + p + ")", x.got(p), m.got(p));
            default -> due("count(" + k + ")", x.count(k), m.count(k));
        }
    }

    private void deed(int which) {
        switch (which) {
            case 34 -> due("will()", x.will(), m.will());
            case 35, 36, 37 -> person();
            case 38, 39 -> means();
            case 40 -> {
                int p = of(m.people.size());
                boolean spared = calm && dice.nextInt(3) != 0;
                if (!spared) {
                    due("dies(" + p + ")", x.dies(p), m.dies(p));
                }
            }
            case 41, 42 -> {
                int w = of(m.wills);
                due("room(" + w + ")", x.room(w), m.room(w));
            }
            case 43 -> due("trustee()", x.trustee(), m.trustee());
            case 44 -> {
                int t = of(m.away.size());
                boolean is = dice.nextBoolean();
                due("away(" + t + ", " + is + ")", x.away(t, is), m.away(t, is));
            }
            case 45, 46, 47, 48 -> {
                int r = of(m.rooms.size());
                due("fill(" + r + ")", x.fill(r), m.fill(r));
            }
            case 49, 50 -> {
                int r = of(m.rooms.size());
                due("leave(" + r + ")", x.leave(r), m.leave(r));
            }
            case 51 -> land();
            case 52 -> {
                int v = dice.nextInt(6) == 0 ? roll(-1, 1000) : roll(0, 60);
                due("dole(" + v + ")", x.dole(v), m.dole(v));
            }
            default -> {
                int days = dice.nextInt(8) == 0 ? roll(-1, 401) : roll(1, 30);
                due("pass(" + days + ")", x.pass(days), m.pass(days));
            }
        }
    }

    private void person() {
        int birth = dice.nextInt(10) == 0 ? roll(-40002, m.today + 1) : m.today - roll(0, 30000);
        int coming = dice.nextInt(10) == 0 ? birth - 1 : birth + dice.nextInt(Math.max(1, m.today - birth + 1));
        boolean kin = dice.nextBoolean();
        due("person(" + birth + ", " + coming + ", " + kin + ")", x.person(birth, coming, kin),
                m.person(birth, coming, kin));
    }

    private void means() {
        int p = of(m.people.size());
        int d = day();
        int v = dice.nextInt(8) == 0 ? roll(-1, 10000) : roll(0, 100);
        due("means(" + p + ", " + d + ", " + v + ")", x.means(p, d, v), m.means(p, d, v));
    }

    private void land() {
        int rent = dice.nextInt(8) == 0 ? roll(-1, 10000) : roll(0, 300);
        int each = dice.nextInt(8) == 0 ? roll(-1, 401) : roll(1, 60);
        int first = m.today + roll(0, 200);
        due("land(" + rent + ", " + each + ", " + first + ")", x.land(rent, each, first), m.land(rent, each, first));
    }

    /** Texts by the grammar, some of them spoilt, some of them near a bound. */
    private static final class Texts {
        private static final String[] SPOIL = {"put", "strike", "order", "or", "and", "not", "age", "kin", "(", ")",
            "<", "=", ">", "+", "*", ";", "0", "13", "7", "12345", "foo", "abcdefghi", "abcdefgh", "#", "A", "\t"};
        private final Random dice;
        private final List<String> tokens = new ArrayList<>();
        private final int depth;

        Texts(Random dice) {
            this.dice = dice;
            depth = dice.nextInt(12) == 0 ? 10 : 2;
        }

        String text() {
            int changes = dice.nextInt(12) == 0 ? 11 + dice.nextInt(4) : 1 + dice.nextInt(3);
            for (int i = 0; i < changes; i++) {
                if (i > 0) {
                    tokens.add(";");
                }
                change(changes > 10);
            }
            for (int spoilt = dice.nextInt(4); spoilt > 2; spoilt--) {
                spoil();
            }
            String text = join();
            return text.length() <= 300 ? text : text.substring(0, 300);
        }

        private void change(boolean small) {
            int kind = dice.nextInt(small ? 12 : 6);
            if (kind == 0) {
                tokens.add("order");
                sum();
            } else if (kind > 4) {
                tokens.add("strike");
                tokens.add("" + number());
            } else {
                tokens.add("put");
                tokens.add("" + number());
                int wide = dice.nextInt(15) == 0 ? 19 + dice.nextInt(4) : 1 + dice.nextInt(4);
                any(wide, 0);
            }
        }

        private int number() {
            return dice.nextInt(40) == 0 ? dice.nextInt(16) : 1 + dice.nextInt(5);
        }

        private void any(int wide, int deep) {
            for (int i = 0; i < wide; i++) {
                if (i > 0) {
                    tokens.add(dice.nextBoolean() ? "or" : "and");
                }
                one(deep);
            }
        }

        private void one(int deep) {
            int nots = dice.nextInt(4) == 0 ? dice.nextInt(dice.nextInt(6) == 0 ? 11 : 3) : 0;
            for (int i = 0; i < nots; i++) {
                tokens.add("not");
            }
            if (deep < depth && (depth == 10 ? dice.nextInt(12) != 0 : dice.nextInt(4) == 0)) {
                tokens.add("(");
                any(depth == 10 ? 1 : 1 + dice.nextInt(3), deep + 1);
                tokens.add(")");
            } else {
                comparison();
            }
        }

        private void comparison() {
            String[] signs = {"<", ">", "="};
            int which = dice.nextInt(5);
            int[] near = {80, 60, 100, 2, 200};
            tokens.add(Model.NAMES.get(which));
            tokens.add(signs[dice.nextInt(3)]);
            tokens.add("" + dice.nextInt(near[which]));
        }

        private void sum() {
            int terms = 1 + dice.nextInt(dice.nextInt(4) == 0 ? 6 : 4);
            for (int i = 0; i < terms; i++) {
                if (i > 0) {
                    tokens.add("+");
                }
                int kind = dice.nextInt(3);
                if (kind > 0) {
                    tokens.add("" + dice.nextInt(dice.nextInt(9) == 0 ? 10000 : 9));
                }
                if (kind == 2) {
                    tokens.add("*");
                }
                if (kind != 1) {
                    tokens.add(Model.NAMES.get(dice.nextInt(5)));
                }
            }
        }

        private void spoil() {
            int at = dice.nextInt(tokens.size());
            String other = SPOIL[dice.nextInt(SPOIL.length)];
            switch (dice.nextInt(4)) {
                case 0 -> tokens.add(at, other);
                case 1 -> tokens.set(at, other);
                case 2 -> tokens.remove(at);
                default -> tokens.subList(at, tokens.size()).clear();
            }
        }

        /** Blanks only where two tokens would grow together, and at times elsewhere. */
        private String join() {
            StringBuilder text = new StringBuilder();
            boolean thrifty = dice.nextBoolean();
            for (String token : tokens) {
                char last = text.length() == 0 ? ' ' : text.charAt(text.length() - 1);
                char first = token.charAt(0);
                boolean grow = Character.isLetter(last) && Character.isLetter(first)
                        || Character.isDigit(last) && Character.isDigit(first);
                if (grow || !thrifty && dice.nextBoolean()) {
                    text.append(' ');
                }
                text.append(token);
            }
            return text.append(" ".repeat(dice.nextInt(8) == 0 ? 3 : 0)).toString();
        }
    }
}
