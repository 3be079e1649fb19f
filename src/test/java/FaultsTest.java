/** Promises 4, 5, 6: every kind of FAULT of a TEXT, and its place. */
public final class FaultsTest {
    private static final Check check = new Check();

    public static void main(String[] args) {
        good();
        badBytes();
        form();
        theEnd();
        names();
        clauseNumbers();
        manyChanges();
        manyComparisons();
        manyTerms();
        manyBrackets();
        manyNots();
        firstFromTheLeft();
        likeWords();
        behindFaults();
        check.end("FaultsTest");
    }

    private static void is(String text, int fault, int place) {
        check.reads(text, fault, place);
    }

    private static void good(String text) {
        is(text, 0, -1);
    }

    private static void good() {
        good("put 1 age > 60");
        good("put1age>60");
        good("  put 1  age>60   ");
        good("put 0012 not not ( kin = 1 )");
        good("put 12 age < 9999 and years = 0000 or means > 0 and (kin = 1 or not waits < 5)");
        good("strike 1;strike 12;put 2 ((age>1));order 5");
        good("order age");
        good("order 2*age+years+3*kin+9999*waits");
        good("order5*age+7");
        good("put 1 kin=1or kin=0and age>1");
    }

    private static void badBytes() {
        is("Put 1 age > 60", 1, 0);
        is("put 1 age > 60\t", 1, 14);
        is("put 1 age >= 60", 1, 11);
        is("put 1 age ! 60", 1, 10);
        is("put 1 age > 6-0", 1, 13);
        is("put 1 agE > 60", 2, 6);
        is("put 1 ageE > 60", 1, 9);
        is("put 1 age > 60,", 1, 14);
        is("put 1 ag" + (char) 233 + " > 60", 2, 6);
        is("strike 1" + (char) 0, 1, 8);
        is("strike 1" + (char) 255, 1, 8);
        is("put 1 abcdefgh > 1", 2, 6);
        is("put 1 abcdefghi > 1", 1, 6);
        is("put 1 age > 12345", 1, 12);
        is("put 00001 age > 1", 1, 4);
        is("order age {", 1, 10);
        is("order age `", 1, 10);
        is("order age /", 1, 10);
        is("order age :", 1, 10);
    }

    private static void form() {
        is("wills", 1, 0);
        is("age > 1", 1, 0);
        is("1", 1, 0);
        is("; strike 1", 1, 0);
        is("put age > 60", 1, 4);
        is("put put 1", 1, 4);
        is("strike age", 1, 7);
        is("strike 1 age > 3", 1, 9);
        is("strike 1 strike 2", 1, 9);
        is("put 1 > 60", 1, 6);
        is("put 1 60 > age", 1, 6);
        is("put 1 ) age > 60", 1, 6);
        is("put 1 age + 60", 1, 10);
        is("put 1 age age > 60", 1, 10);
        is("put 1 age foo 60", 1, 10);
        is("put 1 age > years", 1, 12);
        is("put 1 age > foo", 1, 12);
        is("put 1 age > ( 60 )", 1, 12);
        is("put 1 age > 60 60", 1, 15);
        is("put 1 age > 60 )", 1, 15);
        is("put 1 age > 60 foo", 1, 15);
        is("put 1 age > 60 not kin = 1", 1, 15);
        is("put 1 (age > 60 ; strike 1", 1, 16);
        is("put 1 (age > 60) (kin = 1)", 1, 17);
        is("put 1 (age > 60))", 1, 16);
        is("put 1 ()", 1, 7);
        is("put 1 age > 60 and or kin = 1", 1, 19);
        is("put 1 age > 60 or and kin = 1", 1, 18);
        is("put 1 age > 60 and ; strike 1", 1, 19);
        is("put 1 not ; strike 1", 1, 10);
        is("strike 1 ;; strike 2", 1, 10);
        is("strike 1 ; age", 1, 11);
        is("order + age", 1, 6);
        is("order age + + age", 1, 12);
        is("order age * 2", 1, 10);
        is("order 2 * 2", 1, 10);
        is("order 2 * * age", 1, 10);
        is("order 2 age", 1, 8);
        is("order 2 * age * 2", 1, 14);
        is("order (age)", 1, 6);
        is("order age > 2", 1, 10);
        is("order age age", 1, 10);
        is("order age or age", 1, 10);
        is("order age ) ", 1, 10);
    }

    private static void theEnd() {
        is("", 1, 0);
        is("    ", 1, 4);
        is("put", 1, 3);
        is("put 1", 1, 5);
        is("put 1 age", 1, 9);
        is("put 1 age >", 1, 11);
        is("put 1 age >   ", 1, 14);
        is("put 1 (age > 3", 1, 14);
        is("put 1 age > 3 and", 1, 17);
        is("put 1 age > 3 or", 1, 16);
        is("put 1 not", 1, 9);
        is("strike", 1, 6);
        is("strike 1;", 1, 9);
        is("strike 1 ; ", 1, 11);
        is("order", 1, 5);
        is("order 2 *", 1, 9);
        is("order age +", 1, 11);
    }

    private static void names() {
        is("put 1 size > 60", 2, 6);
        is("put 1 ages > 60", 2, 6);
        is("put 1 ag > 60", 2, 6);
        is("put 1 not wait = 1", 2, 10);
        is("put 1 (year = 1)", 2, 7);
        is("put 1 age > 1 and z = 1", 2, 18);
        is("put 1 age > 1 or z = 1", 2, 17);
        is("order size", 2, 6);
        is("order 3 * size", 2, 10);
        is("order 3 + size", 2, 10);
        String[] keywords = {"put", "strike", "order", "or", "and"};
        for (String keyword : keywords) {
            is("put 1 " + keyword + " > 60", 1, 6);
            is("order " + keyword, 1, 6);
            is("order 2 * " + keyword, 1, 10);
        }
        is("order not", 1, 6);
        is("order 2 * not", 1, 10);
        String[] all = {"age", "years", "means", "kin", "waits"};
        for (String name : all) {
            good("put 1 " + name + " = 3;order 2*" + name + "+" + name);
        }
    }

    private static void clauseNumbers() {
        is("put 0 age > 1", 3, 4);
        is("put 13 age > 1", 3, 4);
        is("strike 0", 3, 7);
        is("strike 13", 3, 7);
        is("strike 9999", 3, 7);
        is("strike 10000", 1, 7);
        good("strike 1");
        good("strike 12");
        good("strike 0001");
        is("strike 1;strike 00", 3, 16);
    }

    private static void manyChanges() {
        String twelve = Check.repeat("strike 1", 12, ";");
        good(twelve);
        is(twelve + ";strike 1", 4, 108);
        is(twelve + ";  put", 4, 110);
        is(twelve + ";order 1", 4, 108);
        is(twelve + ";", 1, 108);
        is(twelve + ";age", 1, 108);
        is(twelve + ";strik 1", 1, 108);
        is(twelve + ";7", 1, 108);
        is(twelve + " strike 1", 1, 108);
    }

    private static void manyComparisons() {
        String twenty = "put 1 " + Check.repeat("age>1", 20, "or ");
        int length = twenty.length();
        good(twenty);
        is(twenty + "or age>1", 4, length + 3);
        is(twenty + "and age", 4, length + 4);
        is(twenty + "or foo>1", 2, length + 3);
        is(twenty + "or or", 1, length + 3);
        is(twenty + "or 7", 1, length + 3);
        is(twenty + "or not age>1", 4, length + 7);
        is(twenty + "or (foo", 2, length + 4);
        is(twenty + "or (kin", 4, length + 4);
        is(twenty + ";put 2 age>1", 4, length + 7);
        good(twenty + ";strike 2;order age+age");
        String ten = Check.repeat("age>1", 10, "or ");
        good("put 1 " + ten + ";put 2 " + ten);
        is("put 1 " + ten + ";put 2 " + ten + ";put 3 kin=1", 4, 6 + 77 + 7 + 77 + 7);
    }

    private static void manyTerms() {
        good("order 1+2+3+4");
        good("order 1+2*age+kin+4*waits");
        is("order 1+2+3+4+5", 4, 14);
        is("order 1+2+3+4+age", 4, 14);
        is("order 1+2+3+4+", 1, 14);
        is("order 1+2+3+4+mize", 2, 14);
        is("order 1+2+3+4+or", 1, 14);
        is("order 1+2+3+4+*", 1, 14);
        good("order 1+2+3+4;order 1+2+3+4");
        is("order 1+2;order 1+2+3+4+5", 4, 24);
    }

    private static void manyBrackets() {
        good("put 1 ((((((((kin=1))))))))");
        is("put 1 (((((((((kin=1)))))))))", 4, 14);
        good("put 1 (kin=1) and (kin=1) and (kin=1) and (kin=1) and (kin=1) and (kin=1) and (kin=1) and (kin=1) and (kin=1)");
        good("put 1 ((((((((kin=1)))))))) or ((((((((kin=1))))))));put 2 ((((((((kin=1))))))))");
        is("put 1 (kin=1 and ((((((((kin=1)))))))))", 4, 24);
        is("put 1 not (not (not (not (not (not (not (not (not (kin=1)))))))))", 4, 50);
    }

    private static void manyNots() {
        String eight = Check.repeat("not ", 8, "");
        good("put 1 " + eight + "kin=1");
        is("put 1 " + eight + "not kin=1", 4, 38);
        is("put 1 " + eight + "foo=1", 2, 38);
        good("put 1 " + eight + "(" + eight + "kin=1)");
        good("put 1 " + eight + "kin=1 and " + eight + "kin=1");
        good("put 1 " + eight + "(kin=1) and " + eight + "kin=1");
        is("put 1 not (" + eight + "not kin=1)", 4, 43);
    }

    /** Words that differ in one letter, or are parts of one another, aren't the same. */
    private static void likeWords() {
        String[] unlike = {"but", "pot", "pus", "puts", "pu", "ttrike", "strikf", "strikes", "arder", "orden", "orders"};
        for (String word : unlike) {
            is(word + " 1", 1, 0);
        }
        String[] starts = {"or", "and", "not", "age", "kin", "years", "means", "waits"};
        for (String word : starts) {
            is(word + " 1", 1, 0);
        }
        String[] noNames = {"bge", "agf", "zears", "yearz", "year", "leans", "meant", "lin", "kim", "kins", "vaits",
            "waitt", "wait", "nor", "nots", "ands", "ors", "o", "a", "no"};
        for (String word : noNames) {
            is("put 1 " + word + " = 1", 2, 6);
            is("order " + word, 2, 6);
        }
        String[] noJoints = {"order", "strike", "put", "not", "ar", "os", "bnd", "ant", "an", "age"};
        for (String word : noJoints) {
            is("put 1 age = 1 " + word + " kin = 1", 1, 14);
        }
    }

    /** A text is read afresh, whatever stood open in the one before. */
    private static void behindFaults() {
        String eight = Check.repeat("not ", 8, "");
        String[] before = {"put 1 not not not", "put 1 (((", "put 1 (not (kin=1 and", "put 1 kin=1 or kin=1 and kin=1 or",
            "order 1+2+3+", "order 1+2+3*", "put 1 " + Check.repeat("age>1", 20, "or ") + "or",
            Check.repeat("strike 1", 12, ";") + ";"};
        // Each of these lets kin come, and nobody else.
        String[] behind = {"put 1 kin=1", "put 1 " + eight + "kin=1", "put 1 ((((((((kin=1))))))))",
            "put 1 kin=1 or kin=7", "put 1 kin=1 and kin=1;order 1+2+3+4",
            "put 1 kin=1 or " + Check.repeat("kin=7", 19, "or "),
            Check.repeat("strike 1", 11, ";") + ";put 1 kin=1"};
        for (String faulty : before) {
            for (String text : behind) {
                AlmsHouse x = Check.withWills(1);
                x.person(0, 0, true);
                x.person(0, 0, false);
                check.due("[" + faulty + "]", Check.scheme(x, 0, 0, faulty), -1);
                check.due("[" + text + "] behind a fault", Check.scheme(x, 0, 0, text), 0);
                check.due("[" + text + "] of kin", x.bars(0, 0, 0), -2);
                check.due("[" + text + "] of others", x.bars(1, 0, 0), 1);
            }
        }
    }

    private static void firstFromTheLeft() {
        is("put 13 foo > 1", 3, 4);
        is("put 1 foo > 12345", 2, 6);
        is("put 1 age > 60; strike 13; put 2 foo", 3, 23);
        is("put 13 # ", 3, 4);
        is("put # 13", 1, 4);
    }
}
