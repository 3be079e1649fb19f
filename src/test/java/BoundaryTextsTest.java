/** Term II, sentence by sentence: the tape, TOKENS, what a TEXT may be, which CHANGE stands, and FAULTS, at their edges. */
public final class BoundaryTextsTest {
    private static final String EIGHT_NOTS = "not not not not not not not not ";
    private static final Check check = new Check();

    public static void main(String[] args) {
        tapeBytes();
        blanks();
        noOtherBlanks();
        words();
        numbers();
        numberValues();
        singles();
        everyFirstByte();
        text();
        change();
        anyAndAll();
        one();
        comparisons();
        sum();
        names();
        holdsFromADay();
        theLatest();
        ofOneDay();
        putsOrStrikes();
        orderLikewise();
        firstFromTheLeft();
        leastNumber();
        formOfBytes();
        formOfTokens();
        theEnd();
        noName();
        keyWordsForNames();
        clauseNumbers();
        thirteenthChange();
        comparison21();
        fifthTerm();
        ninthOpen();
        ninthNot();
        check.end("BoundaryTextsTest");
    }

    private static void says(String words) {
        check.says("II", words);
    }

    private static void good(String... texts) {
        for (String text : texts) {
            check.reads(text, 0, -1);
        }
    }

    private static void bad(String text, int fault, int place) {
        check.reads(text, fault, place);
    }

    // ---- the tape and its tokens

    private static void tapeBytes() {
        says("THE TAPE has 300 bytes");
        good(" ".repeat(292) + "strike 1");
        good("strike 1" + " ".repeat(292));
        bad(" ".repeat(291) + "strike 1#", 1, 299);
        bad(" ".repeat(292) + "strike 0", 3, 299);
        bad(" ".repeat(293) + "put 1 a", 2, 299);
        bad(" ".repeat(294) + "strike", 1, 300);
        bad(" ".repeat(300), 1, 300);
        bad("a".repeat(300), 1, 0);
        bad("put 1 " + "a".repeat(294), 1, 6);
        bad("strike " + "1".repeat(293), 1, 7);
        bad(";".repeat(300), 1, 0);
        bad("put 1 " + "(".repeat(294), 4, 14);
        AlmsHouse x = Check.withWills(1);
        Check.feed(x, " ".repeat(291) + "strike 12");
        check.due("the 300th byte is cut off", x.scheme(0, 0, 299), 0);
        check.due("the 300th byte is cut off: fault()", x.fault(), 0);
    }

    private static void blanks() {
        says("blanks, 32, part TOKENS and mean nothing else");
        good("strike 1", "strike1", " strike 1", "strike      1     ", "put1kin=1or kin=0", "put 1(kin=1)and(kin=0)");
        good("order 2 * age + 3", "order2*age+3", "strike 1 ; strike 2", "strike 1;strike 2", "strike1;put2not kin=1");
        bad("str ike 1", 1, 0);
        bad("strike 1 2", 1, 9);
        bad("put 1 ki n = 1", 2, 6);
        bad("put 1 kin=1orkin=0", 1, 11);
        bad("put 1 notkin=1", 2, 6);
        bad("orderage", 1, 0);
    }

    private static void noOtherBlanks() {
        says("blanks, 32, part TOKENS and mean nothing else");
        int[] others = {0, 1, 9, 10, 11, 12, 13, 31, 33, 127, 128, 160, 255};
        for (int other : others) {
            bad("strike" + (char) other + "1", 1, 6);
            bad("strike 1" + (char) other, 1, 8);
            bad((char) other + "strike 1", 1, 0);
        }
    }

    private static void words() {
        says("WORDS of 1 to 8 small letters that stand together");
        bad("put 1 a > 1", 2, 6);
        bad("put 1 z > 1", 2, 6);
        bad("put 1 abcdefgh > 1", 2, 6);
        bad("put 1 abcdefghi > 1", 1, 6);
        bad("put 1 ageageage > 1", 1, 6);
        bad("put 1 zzzzzzzz > 1", 2, 6);
        bad("put 1 zzzzzzzzz > 1", 1, 6);
        bad("order abcdefgh", 2, 6);
        bad("order abcdefghi", 1, 6);
        bad("order 2*abcdefgh", 2, 8);
        bad("order 2*abcdefghi", 1, 8);
        // A letter that is not small, and the bytes beside the small ones, part a word.
        int[] beside = {'A', 'G', 'Z', '@', '[', '_', '`', '{', 0xE1, 0x61 + 128};
        for (int b : beside) {
            bad("put 1 " + (char) b + "ge > 1", 1, 6);
            bad("put 1 age" + (char) b + " > 1", 1, 9);
            bad("put 1 ag" + (char) b + " > 1", 2, 6);
        }
    }

    private static void numbers() {
        says("NUMBERS of 1 to 4 digits that do");
        good("put 1 age>0", "put 1 age>9", "put 1 age>0000", "put 1 age>9999", "strike 0012", "order 9999", "order 0");
        bad("put 1 age>00000", 1, 10);
        bad("put 1 age>99999", 1, 10);
        bad("strike 00001", 1, 7);
        bad("order 10000", 1, 6);
        bad("order 10000*age", 1, 6);
        // As an int these would be 1.
        bad("strike 4294967297", 1, 7);
        bad("strike 18446744073709551617", 1, 7);
        int[] beside = {'/', ':', '-', '.', ',', 0xB2, '1' + 128};
        for (int b : beside) {
            bad("put 1 age>" + (char) b, 1, 10);
            bad("put 1 age>1" + (char) b, 1, 11);
        }
    }

    /** A number is what its digits say, of one digit as of four. */
    private static void numberValues() {
        says("NUMBERS of 1 to 4 digits that do");
        AlmsHouse x = Check.withWills(1);
        x.person(0, 0, false);
        int[] values = {0, 7, 10, 98, 109, 1000, 8063, 9999};
        for (int value : values) {
            Check.scheme(x, 0, 0, "order " + value);
            check.due("order " + value, x.order(0, 0, 0), value);
        }
        Check.scheme(x, 0, 0, "order 0090");
        check.due("order 0090", x.order(0, 0, 0), 90);
    }

    private static void singles() {
        says("single ones of < > = ( ) + * ;");
        good("put 1 age<1", "put 1 age>1", "put 1 age=1", "put 1 ((age=1))", "order 1+2*age", "strike 1;strike 1");
        bad("put 1 age<=1", 1, 10);
        bad("put 1 age>=1", 1, 10);
        bad("put 1 age==1", 1, 10);
        bad("put 1 age<>1", 1, 10);
        bad("order 1++2", 1, 8);
        bad("order 2**age", 1, 8);
        bad("strike 1;;strike 1", 1, 9);
        String others = "!\"#$%&',-./:?@[\\]^_`{|}~";
        for (int i = 0; i < others.length(); i++) {
            bad("put 1 age" + others.charAt(i) + "1", 1, 9);
            bad("strike 1" + others.charAt(i) + "strike 1", 1, 8);
        }
    }

    /** Of all 256 bytes, where a NAME is to be: blanks and ( go on, a small letter is a WORD, all else is FORM. */
    private static void everyFirstByte() {
        says("1 FORM: the first byte that begins no TOKEN, or TOKEN with which no text goes on");
        for (int b = 0; b < 256; b++) {
            boolean goesOn = b == ' ' || b == '(';
            boolean word = b >= 'a' && b <= 'z';
            bad("put 1 " + (char) b, word ? 2 : 1, goesOn ? 7 : 6);
        }
    }

    // ---- what a text may be

    private static void text() {
        says("TEXT: CHANGE {; CHANGE}");
        good("strike 1", "strike 1;strike 2", "strike 1;put 1 kin=1;order 1");
        bad("", 1, 0);
        bad(";", 1, 0);
        bad(";strike 1", 1, 0);
        bad("strike 1;", 1, 9);
        bad("strike 1 strike 2", 1, 9);
        bad("strike 1;;strike 2", 1, 9);
    }

    private static void change() {
        says("CHANGE: put NUMBER ANY, strike NUMBER, order SUM");
        bad("put kin=1", 1, 4);
        bad("put 1", 1, 5);
        bad("put 1;strike 1", 1, 5);
        bad("strike kin", 1, 7);
        bad("strike;strike 1", 1, 6);
        bad("strike 1 kin=1", 1, 9);
        bad("order", 1, 5);
        bad("order;strike 1", 1, 5);
        bad("order 1 kin=1", 1, 8);
        bad("kin=1", 1, 0);
        bad("1 put kin=1", 1, 0);
    }

    private static void anyAndAll() {
        says("ANY: ALL {or ALL}. ALL: ONE {and ONE}.");
        bad("put 1 or kin=1", 1, 6);
        bad("put 1 and kin=1", 1, 6);
        bad("put 1 kin=1 or", 1, 14);
        bad("put 1 kin=1 and", 1, 15);
        bad("put 1 kin=1 or or kin=1", 1, 15);
        bad("put 1 kin=1 and and kin=1", 1, 16);
        bad("put 1 kin=1 kin=1", 1, 12);
        holds("kin=1 or kin=0 and kin=0", true);
        holds("kin=0 and kin=0 or kin=1", true);
        holds("kin=0 and kin=1 or kin=0", false);
    }

    private static void one() {
        says("ONE: not ONE, ( ANY ), NAME < NUMBER, NAME > NUMBER, NAME = NUMBER.");
        good("put 1 not kin=1", "put 1 not not kin=1", "put 1 (kin=1)", "put 1 not(not(kin=1))", "put 1 (kin=1 or kin=0)");
        bad("put 1 not", 1, 9);
        bad("put 1 ()", 1, 7);
        bad("put 1 (kin=1", 1, 12);
        bad("put 1 kin=1)", 1, 11);
        bad("put 1 (kin=1))", 1, 13);
        bad("put 1 (kin=1;strike 1)", 1, 12);
        bad("put 1 kin not = 1", 1, 10);
        bad("put 1 kin", 1, 9);
        bad("put 1 kin=", 1, 10);
        bad("put 1 1=kin", 1, 6);
        bad("put 1 kin=kin", 1, 10);
        bad("put 1 kin=(1)", 1, 10);
        bad("put 1 kin+1", 1, 9);
        // not is of the ONE behind it alone
        holds("not kin=1 or kin=1", true);
        holds("not kin=0 and kin=0", false);
        holds("not (kin=1 or kin=1)", false);
        holds("(kin=0 and kin=1) or kin=1", true);
        holds("(kin=1 or kin=1) and kin=0", false);
        holds("not (kin=1 and kin=0) and kin=1", true);
        holds("kin=0 and (kin=1 or kin=1)", false);
        holds("kin=0 or (kin=1 and kin=1)", true);
    }

    private static void comparisons() {
        says("NAME < NUMBER, NAME > NUMBER, NAME = NUMBER");
        holds("means<300", false);
        holds("means<301", true);
        holds("means>300", false);
        holds("means>299", true);
        holds("means=299", false);
        holds("means=300", true);
        holds("means=301", false);
        holds("kin<0", false);
        holds("kin>0", true);
        holds("waits=0", true);
        holds("waits<0", false);
        holds("waits>0", false);
    }

    /** Of one that is kin, has means of 300 and asked on that day. */
    private static void holds(String any, boolean due) {
        AlmsHouse x = Check.withWills(1);
        x.person(0, 0, true);
        x.means(0, 0, 300);
        check.due(any, Check.scheme(x, 0, 0, "put 1 " + any), 0);
        check.due(any + ": may()", x.may(0, 0, 0), due ? 1 : 0);
    }

    private static void sum() {
        says("SUM: TERM {+ TERM}. TERM: NUMBER [* NAME] or NAME.");
        good("order 1", "order age", "order 2*age", "order age+1+2*age+age");
        bad("order +1", 1, 6);
        bad("order 1+", 1, 8);
        bad("order 1 1", 1, 8);
        bad("order 1*", 1, 8);
        bad("order 1*2", 1, 8);
        bad("order 1*age*2", 1, 11);
        bad("order age*1", 1, 9);
        bad("order age age", 1, 10);
        bad("order (age)", 1, 6);
        bad("order not age", 1, 6);
        AlmsHouse x = Check.withWills(1);
        x.person(0, 0, true);
        x.means(0, 0, 300);
        Check.scheme(x, 0, 0, "order 2*means+kin+50+3*means");
        check.due("order 2*means+kin+50+3*means", x.order(0, 0, 0), 600 + 1 + 50 + 900);
    }

    private static void names() {
        says("NAME: age, years (since coming to the parish), means, kin (1, or 0), waits (DAYS since asking)");
        AlmsHouse x = Check.withWills(1);
        x.person(-3 * 365, -2 * 365, true);
        x.means(0, 0, 70);
        x.person(0, 0, false);
        String[] names = {"age", "years", "means", "kin", "waits"};
        int[] due = {3, 2, 70, 1, 9};
        for (int i = 0; i < names.length; i++) {
            Check.scheme(x, 0, 0, "order " + names[i]);
            check.due(names[i], x.order(0, 0, 9), due[i]);
            check.due(names[i] + " by fact()", x.fact(0, 9, i), due[i]);
        }
        check.due("kin of no founder", x.fact(1, 9, 3), 0);
    }

    // ---- which change stands

    private static void holdsFromADay() {
        says("A SCHEME is of a WILL and holds from a DAY on.");
        AlmsHouse x = Check.withWills(2);
        Check.scheme(x, 0, 40000, "put 1 kin=1");
        Check.scheme(x, 0, 0, "put 2 kin=1");
        Check.scheme(x, 1, 500, "put 3 kin=1");
        check.due("the day ahead of the last", x.clause(0, 1, 39999), -2);
        check.due("the last day", x.clause(0, 1, 40000), 0);
        check.due("the first day", x.clause(0, 2, 0), 1);
        check.due("for good", x.clause(0, 2, 40000), 1);
        check.due("the day ahead", x.clause(1, 3, 499), -2);
        check.due("its day", x.clause(1, 3, 500), 2);
        check.due("the day behind", x.clause(1, 3, 501), 2);
        check.due("not of the other will", x.clause(0, 3, 501), -2);
        check.due("nor the other way round", x.clause(1, 2, 501), -2);
        x.pass(400);
        check.due("from a day that is past", Check.scheme(x, 0, 1, "strike 2"), 3);
        check.due("it stood ahead", x.clause(0, 2, 0), 1);
        check.due("it is told as of its day", x.clause(0, 2, 1), -2);
    }

    private static void theLatest() {
        says("of CHANGES of SCHEMES that hold from that DAY or ahead of it the latest one that puts or strikes its number");
        AlmsHouse x = Check.withWills(1);
        Check.scheme(x, 0, 30, "put 1 kin=1");
        Check.scheme(x, 0, 10, "put 1 kin=1");
        Check.scheme(x, 0, 20, "strike 1");
        int[] days = {9, 10, 19, 20, 29, 30, 40000};
        int[] due = {-2, 1, 1, -2, -2, 0, 0};
        for (int i = 0; i < days.length; i++) {
            check.due("day " + days[i], x.clause(0, 1, days[i]), due[i]);
            check.due("clauses on day " + days[i], x.clauses(0, days[i]), due[i] == -2 ? 0 : 1);
        }
        check.due("its number alone", x.clause(0, 2, 40000), -2);
    }

    private static void ofOneDay() {
        says("(of those that hold from one DAY the one told later, in its TEXT the later)");
        AlmsHouse x = Check.withWills(1);
        Check.scheme(x, 0, 10, "put 1 kin=1");
        Check.scheme(x, 0, 10, "put 1 kin=0");
        check.due("told later", x.clause(0, 1, 10), 1);
        Check.scheme(x, 0, 9, "strike 1");
        check.due("told later for a day ahead", x.clause(0, 1, 10), 1);
        Check.scheme(x, 0, 10, "put 1 kin=1;strike 1");
        check.due("later in its text it is struck", x.clause(0, 1, 10), -2);
        Check.scheme(x, 0, 10, "strike 1;put 1 kin=1");
        check.due("later in its text it is put", x.clause(0, 1, 10), 4);
        Check.scheme(x, 0, 10, "put 1 kin=1;put 1 kin=0;order 1;order 2");
        x.person(0, 0, false);
        check.due("the later of two puts", x.bars(0, 0, 10), -2);
        check.due("the later of two orders", x.order(0, 0, 10), 2);
    }

    private static void putsOrStrikes() {
        says("what it puts, or none");
        AlmsHouse x = Check.withWills(1);
        Check.scheme(x, 0, 0, "strike 1;strike 12");
        check.due("struck ahead of any put", x.clause(0, 1, 0), -2);
        check.due("none", x.clauses(0, 0), 0);
        Check.scheme(x, 0, 0, "put 1 kin=1;put 12 kin=1");
        check.due("the first number", x.clause(0, 1, 0), 1);
        check.due("the last number", x.clause(0, 12, 0), 1);
        Check.scheme(x, 0, 0, "strike 12");
        check.due("the last is struck", x.clause(0, 12, 0), -2);
        check.due("the first stays", x.clause(0, 1, 0), 1);
    }

    private static void orderLikewise() {
        says("ORDER likewise (none: 0).");
        AlmsHouse x = Check.withWills(2);
        x.person(0, 0, false);
        check.due("none", x.order(0, 0, 40000), 0);
        Check.scheme(x, 0, 20, "order 20");
        Check.scheme(x, 0, 10, "order 10");
        check.due("the day ahead", x.order(0, 0, 9), 0);
        check.due("its day", x.order(0, 0, 10), 10);
        check.due("the day ahead of the later", x.order(0, 0, 19), 10);
        check.due("the later day, told first", x.order(0, 0, 20), 20);
        Check.scheme(x, 0, 20, "order 21");
        check.due("of one day the one told later", x.order(0, 0, 20), 21);
        Check.scheme(x, 0, 30, "strike 1;put 2 kin=1");
        check.due("clauses leave it", x.order(0, 0, 30), 21);
        check.due("of another will", x.order(0, 1, 30), 0);
    }

    // ---- faults

    private static void firstFromTheLeft() {
        says("FAULTS, the first that is met from the left");
        bad("put 13 foo # ", 3, 4);
        bad("put 1 foo # strike 13", 2, 6);
        bad("put 1 # foo", 1, 6);
        bad("put # 13", 1, 4);
        bad("order 1+2+3+4+5+foo", 4, 14);
        bad("order 1+2+foo+4+5", 2, 10);
        bad("strike 0;strike 13", 3, 7);
        bad("strike 1;strike 13;#", 3, 16);
        bad("put 1 " + EIGHT_NOTS + "not foo=1", 4, 38);
        bad("put 1 (((((((((foo", 4, 14);
    }

    private static void leastNumber() {
        says("of one place the least number");
        // FORM goes ahead of NO NAME, NO NAME ahead of MANY, FORM ahead of MANY.
        bad("put 1 abcdefghi", 1, 6);
        bad("order 1+2+3+4+foo", 2, 14);
        bad("order 1+2+3+4+abcdefghi", 1, 14);
        bad("order 1+2+3+4+12345", 1, 14);
        bad("order 1+2+3+4+(", 1, 14);
        bad(Check.repeat("strike 1", 12, ";") + ";foo", 1, 108);
        bad("put 12345 kin=1", 1, 4);
    }

    private static void formOfBytes() {
        says("1 FORM: the first byte that begins no TOKEN");
        String[] ahead = {"", "put ", "put 1 ", "put 1 kin ", "put 1 kin=", "put 1 kin=1 ", "put 1 kin=1 or ", "put 1 (",
            "put 1 not ", "strike ", "strike 1", "strike 1;", "order ", "order 1", "order 1*", "order 1+", "order age "};
        for (String text : ahead) {
            bad(text + "#", 1, text.length());
            bad(text + (char) 200 + "strike 1", 1, text.length());
            bad(text + "abcdefghi", 1, text.length());
        }
    }

    private static void formOfTokens() {
        says("or TOKEN with which no text goes on");
        String[] tokens = {"12", "<", ">", "=", "(", ")", "+", "*", ";", "put", "strike", "order", "or", "and", "not", "age",
            "foo"};
        goesOn(tokens, "", "put strike order");
        goesOn(tokens, "put ", "12");
        goesOn(tokens, "strike ", "12");
        goesOn(tokens, "strike 1 ", ";");
        goesOn(tokens, "strike 1;", "put strike order");
        goesOn(tokens, "put 1 ", "( not age foo");
        goesOn(tokens, "put 1 not ", "( not age foo");
        goesOn(tokens, "put 1 (", "( not age foo");
        goesOn(tokens, "put 1 kin ", "< > =");
        goesOn(tokens, "put 1 kin < ", "12");
        goesOn(tokens, "put 1 kin < 1 ", "or and ;");
        goesOn(tokens, "put 1 (kin < 1 ", "or and )");
        goesOn(tokens, "put 1 (kin < 1) ", "or and ;");
        goesOn(tokens, "put 1 kin < 1 or ", "( not age foo");
        goesOn(tokens, "put 1 kin < 1 and ", "( not age foo");
        goesOn(tokens, "order ", "12 age foo");
        goesOn(tokens, "order 12 ", "+ * ;");
        goesOn(tokens, "order 12 * ", "age foo");
        goesOn(tokens, "order 12 * age ", "+ ;");
        goesOn(tokens, "order age ", "+ ;");
        goesOn(tokens, "order age + ", "12 age foo");
    }

    /** A token that goes on leaves no FAULT 1 at its place; "foo", where it is named, has FAULT 2 there. */
    private static void goesOn(String[] tokens, String ahead, String due) {
        String among = " " + due + " ";
        for (String token : tokens) {
            AlmsHouse x = Check.withWills(1);
            Check.scheme(x, 0, 0, ahead + token);
            boolean form = x.fault() == 1 && x.where() == ahead.length();
            check.due("\"" + ahead + token + "\" is of no FORM", form, !among.contains(" " + token + " "));
            boolean noName = x.fault() == 2 && x.where() == ahead.length();
            check.due("\"" + ahead + token + "\" is no NAME", noName, token.equals("foo") && among.contains(" foo "));
        }
    }

    private static void theEnd() {
        says("(the end: its place)");
        String[] open = {"", "put", "put 1", "put 1 not", "put 1 (", "put 1 kin", "put 1 kin=", "put 1 (kin=1",
            "put 1 kin=1 or", "put 1 kin=1 and", "strike", "strike 1;", "order", "order 1+", "order 1*"};
        for (String text : open) {
            bad(text, 1, text.length());
            bad(text + "  ", 1, text.length() + 2);
        }
        AlmsHouse x = Check.withWills(1);
        Check.feed(x, "put 1 kin=1");
        x.scheme(0, 0, 9);
        check.due("the end is that of n bytes: fault()", x.fault(), 1);
        check.due("the end is that of n bytes: where()", x.where(), 9);
    }

    private static void noName() {
        says("2 a WORD that is no NAME where one is to be");
        String[] ahead = {"put 1 ", "put 12 not ", "put 1 (", "put 1 kin=1 or ", "put 1 kin=1 and ", "order ", "order 1+",
            "order 1*", "order kin+"};
        String[] words = {"a", "ag", "ages", "bge", "agf", "year", "yearss", "mean", "ki", "kins", "wait", "waitss", "n",
            "no", "nots", "o", "ors", "an", "ands", "pu", "puts", "strikes", "orders", "abcdefgh"};
        for (String text : ahead) {
            for (String word : words) {
                bad(text + word + " = 1", 2, text.length());
            }
        }
        // Where no NAME is to be, it is of no FORM.
        bad("foo 1", 1, 0);
        bad("put foo", 1, 4);
        bad("put 1 kin foo 1", 1, 10);
        bad("put 1 kin = foo", 1, 12);
        bad("put 1 kin = 1 foo", 1, 14);
        bad("order 1 foo", 1, 8);
        bad("strike 1 foo", 1, 9);
        bad("strike foo", 1, 7);
    }

    private static void keyWordsForNames() {
        says("(put, strike, order, or, and, not: there they are 1); at it");
        String[] ahead = {"put 1 ", "put 1 not ", "put 1 (", "put 1 kin=1 or ", "put 1 kin=1 and "};
        String[] words = {"put", "strike", "order", "or", "and"};
        for (String text : ahead) {
            for (String word : words) {
                bad(text + word + "=1", 1, text.length());
            }
        }
        String[] sums = {"order ", "order 1+", "order 1*", "order kin+kin+kin+kin+"};
        for (String text : sums) {
            for (String word : words) {
                bad(text + word, 1, text.length());
            }
            bad(text + "not", 1, text.length());
        }
    }

    private static void clauseNumbers() {
        says("3 a NUMBER of a CLAUSE that isn't 1 .. 12, at it");
        good("strike 1", "strike 12", "put 1 kin=1", "put 12 kin=1", "strike 0001", "strike 012");
        String[] numbers = {"0", "00", "0000", "13", "0013", "99", "112", "1200", "9999"};
        for (String number : numbers) {
            bad("strike " + number, 3, 7);
            bad("put " + number + " kin=1", 3, 4);
            bad("strike 1;strike  " + number, 3, 17);
        }
        // Other numbers may be so.
        good("put 1 kin=0", "put 1 kin=13", "order 0", "order 13", "order 0*age+13*age");
    }

    private static void thirteenthChange() {
        says("4 MANY: a 13th CHANGE");
        String twelve = Check.repeat("strike 1", 12, ";");
        good(twelve, "order 1;" + Check.repeat("strike 1", 10, ";") + ";put 2 kin=1");
        bad(twelve + ";strike 1", 4, 108);
        bad(twelve + ";put 1 kin=1", 4, 108);
        bad(twelve + ";order 1", 4, 108);
        bad(twelve + ";  order", 4, 110);
        bad(twelve + ";strike 0", 4, 108);
        check.says("II", "at its first TOKEN, if it may stand there (else 1; 2 first)");
        bad(twelve + ";", 1, 108);
        bad(twelve + ";;", 1, 108);
        bad(twelve + ";kin", 1, 108);
        bad(twelve + ";or", 1, 108);
        bad(twelve + ";1", 1, 108);
        bad(twelve + " strike 1", 1, 108);
        // Those of the text ahead don't count.
        AlmsHouse x = Check.withWills(1);
        check.due("twelve", Check.scheme(x, 0, 0, twelve), 0);
        check.due("twelve again", Check.scheme(x, 0, 0, twelve), 1);
    }

    private static void comparison21() {
        says("a 21st comparison of a TEXT");
        String twenty = "put 1 " + Check.repeat("kin=1", 20, "or ");
        int n = twenty.length();
        good(twenty, twenty + ";strike 1;order age+age+age+age", twenty.replace("or ", "and "));
        bad(twenty + "or kin=1", 4, n + 3);
        bad(twenty + "and kin", 4, n + 4);
        bad(twenty + "or not kin=1", 4, n + 7);
        bad(twenty + "or (kin=1)", 4, n + 4);
        bad(twenty + ";put 2 kin=1", 4, n + 7);
        bad(twenty + ";strike 1;order age;put 2 not (kin=1)", 4, n + 31);
        String ten = Check.repeat("kin=1", 10, "or ");
        good("put 1 " + ten + ";put 2 " + ten);
        bad("put 1 " + ten + ";put 2 " + ten + "or kin=1", 4, 6 + 77 + 7 + 77 + 3);
        check.says("II", "at its first TOKEN, if it may stand there (else 1; 2 first)");
        bad(twenty + "or", 1, n + 2);
        bad(twenty + "or or", 1, n + 3);
        bad(twenty + "or 7", 1, n + 3);
        bad(twenty + "or )", 1, n + 3);
        bad(twenty + "or foo", 2, n + 3);
        bad(twenty + "or not foo", 2, n + 7);
        bad(twenty + "or (foo", 2, n + 4);
        AlmsHouse x = Check.withWills(1);
        check.due("twenty", Check.scheme(x, 0, 0, twenty), 0);
        check.due("twenty again", Check.scheme(x, 0, 0, twenty), 1);
    }

    private static void fifthTerm() {
        says("a fifth TERM");
        good("order 1+1+1+1", "order age+age+age+age", "order 1*age+1*age+1*age+1*age", "order 1+1+1+1;order 1+1+1+1");
        bad("order 1+1+1+1+1", 4, 14);
        bad("order 1+1+1+1+age", 4, 14);
        bad("order 1+1+1+1+1*age", 4, 14);
        bad("order 1*age+1*age+1*age+1*age+age", 4, 30);
        bad("order 1;order 1+1+1+1+1", 4, 22);
        bad("order 1+1+1+1;order 1+1+1+1+ 1", 4, 29);
        check.says("II", "at its first TOKEN, if it may stand there (else 1; 2 first)");
        bad("order 1+1+1+1+", 1, 14);
        bad("order 1+1+1+1++", 1, 14);
        bad("order 1+1+1+1+(", 1, 14);
        bad("order 1+1+1+1+not", 1, 14);
        bad("order 1+1+1+1+foo", 2, 14);
        bad("order 1+1+1+1*foo", 2, 14);
    }

    private static void ninthOpen() {
        says("a ninth ( open");
        good("put 1 ((((((((kin=1))))))))");
        bad("put 1 (((((((((kin=1)))))))))", 4, 14);
        bad("put 1 ((((((((  (", 4, 16);
        // Those that are shut aren't open.
        good("put 1 ((((((((kin=1)or(kin=1)))))))) and ((((((((kin=1))))))));put 2 ((((((((kin=1))))))))");
        bad("put 1 ((((((((kin=1)or(kin=1 or (", 4, 32);
        bad("put 1 (not(not(not(not(not(not(not(not(", 4, 38);
        AlmsHouse x = Check.withWills(1);
        check.due("left open", Check.scheme(x, 0, 0, "put 1 ((((((((kin=1"), -1);
        check.due("eight in the next text", Check.scheme(x, 0, 0, "put 1 ((((((((kin=1))))))))"), 0);
    }

    private static void ninthNot() {
        says("a ninth not right behind others: at it");
        good("put 1 " + EIGHT_NOTS + "kin=1");
        bad("put 1 " + EIGHT_NOTS + "not kin=1", 4, 38);
        bad("put 1 " + EIGHT_NOTS + "not", 4, 38);
        bad("put 1 " + EIGHT_NOTS + "foo", 2, 38);
        bad("put 1 " + EIGHT_NOTS + "or", 1, 38);
        bad("put 1 " + EIGHT_NOTS, 1, 38);
        // Behind something else they begin anew.
        good("put 1 " + EIGHT_NOTS + "(" + EIGHT_NOTS + "kin=1)");
        good("put 1 " + EIGHT_NOTS + "kin=1 or " + EIGHT_NOTS + "kin=1");
        good("put 1 " + EIGHT_NOTS + "(kin=1)and " + EIGHT_NOTS + "kin=1;put 2 " + EIGHT_NOTS + "kin=1");
        bad("put 1 kin=1 or " + EIGHT_NOTS + "not kin=1", 4, 47);
        bad("put 1 (" + EIGHT_NOTS + "not kin=1)", 4, 39);
        holds(EIGHT_NOTS + "kin=1", true);
        holds("not not not not not not not kin=1", false);
        AlmsHouse x = Check.withWills(1);
        check.due("left open", Check.scheme(x, 0, 0, "put 1 not " + EIGHT_NOTS), -1);
        check.due("eight in the next text", Check.scheme(x, 0, 0, "put 1 " + EIGHT_NOTS + "kin=1"), 0);
        x.person(0, 0, true);
        check.due("none of the text ahead", x.bars(0, 0, 0), -2);
    }
}
