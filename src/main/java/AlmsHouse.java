import java.util.ArrayList;
import java.util.Arrays;

/** An almshouse under founders' wills; what each call answers is promised in the project's document. */
public final class AlmsHouse {
    public static final int NONE = -1;

    private static final int NOBODY = -2;

    private static final int WILLS = 4;
    private static final int CLAUSES = 12;
    private static final int SCHEMES = 40;
    private static final int PEOPLE = 40;
    private static final int MEANS_TOLD = 6;
    private static final int ROOMS = 20;
    private static final int STAYS = 100;
    private static final int TRUSTEES = 8;
    private static final int LANDS = 10;
    private static final int LAST_DAY = 40000;
    private static final int YEAR = 365;
    private static final int WEEK = 7;
    private static final int NEVER = Integer.MAX_VALUE;

    private static final int TAPE_BYTES = 300;
    private static final int FED_BYTES = 20;
    private static final int CHANGES = 12;
    private static final int COMPARISONS = 20;
    private static final int TERMS = 4;
    private static final int BRACKETS = 8;
    private static final int NOTS = 8;
    private static final int WORD_LETTERS = 8;
    private static final int NUMBER_DIGITS = 4;

    private static final int GREATEST_NUMBER = 9999;
    private static final int GREATEST_EACH = 400;
    private static final int GREATEST_DOLE = 999;
    private static final int GREATEST_PASS = 400;
    private static final int CHEST_HOLDS = 1000000;
    private static final long RENTS_TOLD = 2000000000L;

    // TROUBLE
    private static final int NO_SUCH = 1;
    private static final int BAD_NUMBER = 2;
    private static final int NO_ROOM = 3;
    private static final int FAULTY = 4;
    private static final int ALREADY = 5;
    private static final int NOBODY_THERE = 6;

    // FAULTS
    private static final int FORM = 1;
    private static final int NO_NAME = 2;
    private static final int NO_CLAUSE = 3;
    private static final int MANY = 4;

    // Kinds of TOKENS; a single sign is its own byte, so these stay below the least sign.
    private static final int END = 0;
    private static final int BAD = 1;
    private static final int NUMBER = 2;
    private static final int WORD = 3;
    private static final int NAME = 4;
    private static final int PUT = 5;
    private static final int STRIKE = 6;
    private static final int ORDER = 7;
    private static final int OR = 8;
    private static final int AND = 9;
    private static final int NOT = 10;

    // NAMES, numbered as fact() numbers them; UNIT is the factor of a TERM that has no NAME.
    private static final int AGE = 0;
    private static final int YEARS = 1;
    private static final int MEANS = 2;
    private static final int KIN = 3;
    private static final int WAITS = 4;
    private static final int UNIT = 5;

    private final Tape tape;
    private final Reader reader;
    private final ArrayList<Change> changes;
    private final Standing standing;
    private final ArrayList<Person> people;
    private final ArrayList<Room> rooms;
    private final ArrayList<Stay> stays;
    private final Trustees trustees;
    private final ArrayList<Land> lands;
    private final Chest chest;
    private int wills;
    private int schemes;
    private int dole;
    private int today;
    private int trouble;
    private int fault;
    private int faultPlace;

    public AlmsHouse() {
        tape = new Tape();
        reader = new Reader(tape);
        changes = new ArrayList<>();
        standing = new Standing();
        people = new ArrayList<>();
        rooms = new ArrayList<>();
        stays = new ArrayList<>();
        trustees = new Trustees();
        lands = new ArrayList<>();
        chest = new Chest();
        dole = 10;
    }

    // ---- wills and schemes

    public int will() {
        if (wills >= WILLS) {
            return refuse(NO_ROOM);
        }
        wills++;
        return accept(wills - 1);
    }

    public int feed(int a, int b, int c, int d, int e) {
        if (tape.length + FED_BYTES > TAPE_BYTES) {
            return NONE;
        }
        tape.append(a);
        tape.append(b);
        tape.append(c);
        tape.append(d);
        tape.append(e);
        return tape.length;
    }

    public int scheme(int will, int day, int n) {
        if (!isWill(will)) {
            return refuse(NO_SUCH);
        }
        if (!isDay(day) || n < 0 || n > tape.length) {
            return refuse(BAD_NUMBER);
        }
        fault = reader.read(n);
        faultPlace = tape.place;
        tape.length = 0;
        if (fault != 0) {
            return refuse(FAULTY);
        }
        if (schemes >= SCHEMES) {
            return refuse(NO_ROOM);
        }
        keepChanges(will, day);
        schemes++;
        return accept(schemes - 1);
    }

    public int fault() {
        return fault;
    }

    public int where() {
        return trouble == FAULTY ? faultPlace : NONE;
    }

    public int clause(int will, int number, int day) {
        if (!isWill(will) || number < 1 || number > CLAUSES || !isDay(day)) {
            return NONE;
        }
        standing.settle(changes, will, day);
        Change put = standing.clauseAt(number);
        return put == null ? NOBODY : put.scheme;
    }

    public int clauses(int will, int day) {
        if (!isWill(will) || !isDay(day)) {
            return NONE;
        }
        standing.settle(changes, will, day);
        return standing.howMany();
    }

    // ---- people

    public int person(int birth, int coming, boolean kin) {
        if (birth < -LAST_DAY || birth > today || coming < birth || coming > today) {
            return refuse(BAD_NUMBER);
        }
        if (people.size() >= PEOPLE) {
            return refuse(NO_ROOM);
        }
        people.add(new Person(birth, coming, kin, today));
        return accept(people.size() - 1);
    }

    public int means(int person, int day, int v) {
        Person told = personAt(person);
        if (told == null) {
            return refuse(NO_SUCH);
        }
        if (!isDay(day) || v < 0 || v > GREATEST_NUMBER) {
            return refuse(BAD_NUMBER);
        }
        if (told.told >= MEANS_TOLD) {
            return refuse(NO_ROOM);
        }
        told.tellMeans(day, v);
        return accept(told.told);
    }

    public boolean dies(int person) {
        Person dying = personAt(person);
        if (dying == null) {
            refuse(NO_SUCH);
            return false;
        }
        if (dying.died != NEVER) {
            refuse(ALREADY);
            return false;
        }
        dying.died = today;
        empty(roomAt(dying.room));
        accept(0);
        return true;
    }

    public int fact(int person, int day, int what) {
        Person of = personAt(person);
        if (of == null || !isDay(day) || what < AGE || what > WAITS) {
            return NONE;
        }
        return of.tell(what, day);
    }

    public int may(int person, int will, int day) {
        Person of = personAt(person);
        if (of == null || !isWill(will) || !isDay(day)) {
            return NONE;
        }
        standing.settle(changes, will, day);
        return standing.admits(of, day) ? 1 : 0;
    }

    public int bars(int person, int will, int day) {
        Person of = personAt(person);
        if (of == null || !isWill(will) || !isDay(day)) {
            return NONE;
        }
        standing.settle(changes, will, day);
        return standing.firstBar(of, day);
    }

    public int order(int person, int will, int day) {
        Person of = personAt(person);
        if (of == null || !isWill(will) || !isDay(day)) {
            return NONE;
        }
        standing.settle(changes, will, day);
        return standing.rank(of, day);
    }

    public int list(int will, int day) {
        if (!isWill(will) || !isDay(day)) {
            return NONE;
        }
        standing.settle(changes, will, day);
        int admitted = 0;
        for (int i = 0; i < people.size(); i++) {
            if (standing.admits(people.get(i), day)) {
                admitted++;
            }
        }
        return admitted;
    }

    public int next(int will, int day) {
        if (!isWill(will) || !isDay(day)) {
            return NONE;
        }
        return choose(will, day);
    }

    // ---- rooms and trustees

    public int room(int will) {
        if (!isWill(will)) {
            return refuse(NO_SUCH);
        }
        if (rooms.size() >= ROOMS) {
            return refuse(NO_ROOM);
        }
        rooms.add(new Room(will));
        return accept(rooms.size() - 1);
    }

    public int trustee() {
        if (trustees.size >= TRUSTEES) {
            return refuse(NO_ROOM);
        }
        trustees.size++;
        return accept(trustees.size - 1);
    }

    public boolean away(int trustee, boolean is) {
        if (trustee < 0 || trustee >= trustees.size) {
            refuse(NO_SUCH);
            return false;
        }
        trustees.setAbsent(trustee, is);
        accept(0);
        return true;
    }

    public int fill(int room) {
        Room filled = roomAt(room);
        if (filled == null) {
            return refuse(NO_SUCH);
        }
        if (filled.stay != null) {
            return refuse(ALREADY);
        }
        int giver = trustees.giver();
        int chosen = choose(filled.will, today);
        Person comer = personAt(chosen);
        if (giver == NONE || comer == null) {
            return refuse(NOBODY_THERE);
        }
        if (stays.size() >= STAYS) {
            return refuse(NO_ROOM);
        }
        Stay stay = new Stay(room, chosen, today);
        stays.add(stay);
        filled.stay = stay;
        filled.giver = giver;
        comer.room = room;
        trustees.moveTurnBehind(giver);
        return accept(chosen);
    }

    public int leave(int room) {
        Room left = roomAt(room);
        if (left == null) {
            return refuse(NO_SUCH);
        }
        if (left.stay == null) {
            return refuse(NOBODY_THERE);
        }
        int leaver = left.stay.person;
        empty(left);
        return accept(leaver);
    }

    public int roomOf(int room, int what) {
        Room of = roomAt(room);
        if (of == null) {
            return NONE;
        }
        switch (what) {
            case 0:
                return of.will;
            case 1:
                return of.stay == null ? NOBODY : of.stay.person;
            case 2:
                return of.stay == null ? NOBODY : of.stay.from;
            case 3:
                return of.giver;
            default:
                return NONE;
        }
    }

    public int had(int room, int day) {
        if (roomAt(room) == null || day < 0 || day >= today) {
            return NONE;
        }
        for (int i = 0; i < stays.size(); i++) {
            Stay stay = stays.get(i);
            if (stay.room == room && stay.from <= day && day < stay.until) {
                return stay.person;
            }
        }
        return NOBODY;
    }

    // ---- days and money

    public int land(int rent, int each, int first) {
        boolean rentFits = rent >= 0 && rent <= GREATEST_NUMBER;
        boolean eachFits = each >= 1 && each <= GREATEST_EACH;
        if (!rentFits || !eachFits || first <= today || first > LAST_DAY) {
            return refuse(BAD_NUMBER);
        }
        if (lands.size() >= LANDS) {
            return refuse(NO_ROOM);
        }
        lands.add(new Land(rent, each, first));
        return accept(lands.size() - 1);
    }

    public boolean dole(int v) {
        if (v < 0 || v > GREATEST_DOLE) {
            refuse(BAD_NUMBER);
            return false;
        }
        dole = v;
        accept(0);
        return true;
    }

    public int pass(int days) {
        if (days < 1 || days > GREATEST_PASS || days > LAST_DAY - today) {
            return refuse(BAD_NUMBER);
        }
        for (int i = 0; i < days; i++) {
            today++;
            bringRents();
            if (today % WEEK == 0) {
                payDoles();
            }
        }
        return accept(today);
    }

    public int owed(int person) {
        Person of = personAt(person);
        return of == null ? NONE : of.owed;
    }

    public int got(int person) {
        Person of = personAt(person);
        return of == null ? NONE : of.got;
    }

    public int count(int what) {
        switch (what) {
            case 0:
                return wills;
            case 1:
                return schemes;
            case 2:
                return people.size();
            case 3:
                return rooms.size();
            case 4:
                return emptyRooms();
            case 5:
                return trustees.size;
            case 6:
                return trustees.size == 0 ? NONE : trustees.turn;
            case 7:
                return today;
            case 8:
                return chest.content;
            case 9:
                return (int) Math.min(chest.rents, RENTS_TOLD);
            case 10:
                return lands.size();
            case 11:
                return tape.length;
            default:
                return NONE;
        }
    }

    public int trouble() {
        return trouble;
    }

    // ---- what the calls share

    private int refuse(int why) {
        trouble = why;
        return NONE;
    }

    private int accept(int answer) {
        trouble = 0;
        return answer;
    }

    private boolean isWill(int will) {
        return will >= 0 && will < wills;
    }

    private static boolean isDay(int day) {
        return day >= 0 && day <= LAST_DAY;
    }

    private Person personAt(int number) {
        return number >= 0 && number < people.size() ? people.get(number) : null;
    }

    private Room roomAt(int number) {
        return number >= 0 && number < rooms.size() ? rooms.get(number) : null;
    }

    private void keepChanges(int will, int day) {
        for (int i = 0; i < reader.changes; i++) {
            changes.add(new Change(schemes, will, day, reader.whatOf(i), reader.numberOf(i), reader.codeOf(i)));
        }
    }

    /** The people are numbered as they asked: of as great ones the first met is the one that asked first. */
    private int choose(int will, int day) {
        standing.settle(changes, will, day);
        int chosen = NOBODY;
        int greatest = NONE;
        for (int i = 0; i < people.size(); i++) {
            Person asking = people.get(i);
            if (asking.room == NONE && standing.admits(asking, day)) {
                int rank = standing.rank(asking, day);
                if (rank > greatest) {
                    greatest = rank;
                    chosen = i;
                }
            }
        }
        return chosen;
    }

    private void empty(Room left) {
        if (left == null || left.stay == null) {
            return;
        }
        Person leaver = personAt(left.stay.person);
        if (leaver != null) {
            leaver.room = NONE;
            leaver.owed = 0;
        }
        left.stay.until = today;
        left.stay = null;
    }

    private int emptyRooms() {
        int empty = 0;
        for (int i = 0; i < rooms.size(); i++) {
            if (rooms.get(i).stay == null) {
                empty++;
            }
        }
        return empty;
    }

    private void bringRents() {
        for (int i = 0; i < lands.size(); i++) {
            Land land = lands.get(i);
            if (land.isDueOn(today)) {
                chest.takeIn(land.rent);
            }
        }
    }

    private void payDoles() {
        for (int i = 0; i < rooms.size(); i++) {
            Stay stay = rooms.get(i).stay;
            Person paid = stay == null ? null : personAt(stay.person);
            if (paid != null) {
                int due = dole + paid.owed;
                int given = chest.payOut(due);
                paid.got += given;
                paid.owed = due - given;
            }
        }
    }

    // ---- the tape and its texts

    /** The bytes that were fed, and the TOKEN of them that is being read. */
    private static final class Tape {
        final int[] bytes = new int[TAPE_BYTES];
        int length;
        int end;
        int at;
        int place;
        int kind;
        /** Of a NUMBER what it is, of a NAME which one. */
        int value;

        void append(int four) {
            for (int shift = 24; shift >= 0 && length < bytes.length; shift -= 8) {
                bytes[length] = four >>> shift & 255;
                length++;
            }
        }

        /** Goes ahead of the first TOKEN of the first n bytes. */
        void rewind(int n) {
            end = n;
            at = 0;
        }

        void advance() {
            while (at < end && byteAt(at) == ' ') {
                at++;
            }
            place = at;
            value = 0;
            if (at >= end) {
                kind = END;
            } else if (isDigit(byteAt(at))) {
                takeNumber();
            } else if (isLetter(byteAt(at))) {
                takeWord();
            } else {
                kind = isSign(byteAt(at)) ? byteAt(at) : BAD;
                at++;
            }
        }

        private void takeNumber() {
            while (at < end && isDigit(byteAt(at))) {
                value = value * 10 + byteAt(at) - '0';
                at++;
            }
            kind = at - place <= NUMBER_DIGITS ? NUMBER : BAD;
        }

        private void takeWord() {
            while (at < end && isLetter(byteAt(at))) {
                at++;
            }
            kind = at - place <= WORD_LETTERS ? keywordKind() : BAD;
            if (kind == WORD) {
                value = nameNumber();
                kind = value == NONE ? WORD : NAME;
            }
        }

        private int keywordKind() {
            if (spells("put")) {
                return PUT;
            }
            if (spells("strike")) {
                return STRIKE;
            }
            if (spells("order")) {
                return ORDER;
            }
            if (spells("or")) {
                return OR;
            }
            if (spells("and")) {
                return AND;
            }
            return spells("not") ? NOT : WORD;
        }

        private int nameNumber() {
            if (spells("age")) {
                return AGE;
            }
            if (spells("years")) {
                return YEARS;
            }
            if (spells("means")) {
                return MEANS;
            }
            if (spells("kin")) {
                return KIN;
            }
            return spells("waits") ? WAITS : NONE;
        }

        private boolean spells(String word) {
            if (at - place != word.length()) {
                return false;
            }
            for (int i = 0; i < word.length(); i++) {
                if (byteAt(place + i) != word.charAt(i)) {
                    return false;
                }
            }
            return true;
        }

        private int byteAt(int i) {
            return i >= 0 && i < bytes.length ? bytes[i] : 0;
        }

        private static boolean isDigit(int b) {
            return b >= '0' && b <= '9';
        }

        private static boolean isLetter(int b) {
            return b >= 'a' && b <= 'z';
        }

        private static boolean isSign(int b) {
            switch (b) {
                case '<':
                case '>':
                case '=':
                case '(':
                case ')':
                case '+':
                case '*':
                case ';':
                    return true;
                default:
                    return false;
            }
        }
    }

    /** Writes steps with each "not", "and", "or" behind what it joins, so that a code runs without recursion. */
    private static final class Writer {
        // A TOKEN gives one step at most, and is held once at most.
        final int[] code = new int[TAPE_BYTES];
        final int[] held = new int[TAPE_BYTES];
        int length;
        int holding;

        void begin() {
            length = 0;
            holding = 0;
        }

        void write(int step) {
            if (length < code.length) {
                code[length] = step;
                length++;
            }
        }

        void hold(int does) {
            if (holding < held.length) {
                held[holding] = does;
                holding++;
            }
        }

        void endOne() {
            release(NOT);
        }

        void join(int does) {
            // What "and" joins is one side of an "or"; among as strong ones the order makes no odds.
            release(AND);
            hold(does);
        }

        void endAny() {
            release(AND);
            release(OR);
        }

        void closeBracket() {
            release(AND);
            release(OR);
            if (holding > 0) {
                holding--;
            }
            release(NOT);
        }

        private void release(int does) {
            while (holding > 0 && held[holding - 1] == does) {
                holding--;
                write(does);
            }
        }
    }

    /** Reads a TEXT token by token; its state tells which TOKENS a text may go on with. */
    private static final class Reader {
        private static final int AT_CHANGE = 0;
        private static final int AT_PUT_NUMBER = 1;
        private static final int AT_STRIKE_NUMBER = 2;
        private static final int BEHIND_CHANGE = 3;
        private static final int AT_ONE = 4;
        private static final int AT_SIGN = 5;
        private static final int AT_VALUE = 6;
        private static final int BEHIND_ONE = 7;
        private static final int AT_TERM = 8;
        private static final int BEHIND_NUMBER = 9;
        private static final int AT_FACTOR = 10;
        private static final int BEHIND_TERM = 11;
        private static final int ENDED = 12;

        final Tape tape;
        final Writer writer = new Writer();
        final int[] whats = new int[CHANGES];
        final int[] numbers = new int[CHANGES];
        final int[] ends = new int[CHANGES];
        int changes;
        int found;
        int comparisons;
        int terms;
        int open;
        int nots;
        int name;
        int sign;
        int number;

        Reader(Tape tape) {
            this.tape = tape;
        }

        /** The FAULT of the first n bytes, at the place of the tape's token; or 0. */
        int read(int n) {
            begin();
            tape.rewind(n);
            int state = AT_CHANGE;
            // As many tokens as bytes at most, and the end.
            for (int i = 0; i <= TAPE_BYTES && state != ENDED; i++) {
                tape.advance();
                state = step(state);
            }
            return found;
        }

        int whatOf(int change) {
            return change >= 0 && change < changes ? whats[change] : 0;
        }

        int numberOf(int change) {
            return change >= 0 && change < changes ? numbers[change] : 0;
        }

        int[] codeOf(int change) {
            if (change < 0 || change >= changes) {
                return new int[0];
            }
            int from = change == 0 ? 0 : ends[change - 1];
            int to = ends[change];
            if (from < 0 || from > to || to > writer.code.length) {
                return new int[0];
            }
            return Arrays.copyOfRange(writer.code, from, to);
        }

        private void begin() {
            writer.begin();
            changes = 0;
            found = 0;
            comparisons = 0;
            open = 0;
            nots = 0;
        }

        private int step(int state) {
            switch (state) {
                case AT_CHANGE:
                    return readChange();
                case AT_PUT_NUMBER:
                    return readClauseNumber(AT_ONE);
                case AT_STRIKE_NUMBER:
                    return readClauseNumber(BEHIND_CHANGE);
                case BEHIND_CHANGE:
                    return readBehindChange();
                case AT_ONE:
                    return readOne();
                case AT_SIGN:
                    return readSign();
                case AT_VALUE:
                    return readValue();
                case BEHIND_ONE:
                    return readBehindOne();
                case AT_TERM:
                    return readTerm();
                case BEHIND_NUMBER:
                    return readBehindNumber();
                case AT_FACTOR:
                    return readFactor();
                case BEHIND_TERM:
                    return readBehindTerm();
                default:
                    return ENDED;
            }
        }

        private int readChange() {
            int what = tape.kind;
            if (what != PUT && what != STRIKE && what != ORDER) {
                return faulty(FORM);
            }
            if (changes >= CHANGES) {
                return faulty(MANY);
            }
            whats[changes] = what;
            numbers[changes] = 0;
            changes++;
            terms = 0;
            if (what == ORDER) {
                return AT_TERM;
            }
            return what == PUT ? AT_PUT_NUMBER : AT_STRIKE_NUMBER;
        }

        private int readClauseNumber(int then) {
            if (tape.kind != NUMBER) {
                return faulty(FORM);
            }
            if (tape.value < 1 || tape.value > CLAUSES) {
                return faulty(NO_CLAUSE);
            }
            if (changes > 0) {
                numbers[changes - 1] = tape.value;
            }
            return then;
        }

        private int readBehindChange() {
            if (tape.kind != ';' && tape.kind != END) {
                return faulty(FORM);
            }
            if (changes > 0) {
                ends[changes - 1] = writer.length;
            }
            return tape.kind == END ? ENDED : AT_CHANGE;
        }

        private int readOne() {
            switch (tape.kind) {
                case NOT:
                    nots++;
                    writer.hold(NOT);
                    return nots > NOTS ? faulty(MANY) : AT_ONE;
                case '(':
                    nots = 0;
                    open++;
                    writer.hold('(');
                    return open > BRACKETS ? faulty(MANY) : AT_ONE;
                case NAME:
                    nots = 0;
                    comparisons++;
                    name = tape.value;
                    return comparisons > COMPARISONS ? faulty(MANY) : AT_SIGN;
                default:
                    return noName();
            }
        }

        private int readSign() {
            sign = tape.kind;
            return sign == '<' || sign == '>' || sign == '=' ? AT_VALUE : faulty(FORM);
        }

        private int readValue() {
            if (tape.kind != NUMBER) {
                return faulty(FORM);
            }
            writer.write(Change.step(sign, name, tape.value));
            writer.endOne();
            return BEHIND_ONE;
        }

        private int readBehindOne() {
            if (tape.kind == AND || tape.kind == OR) {
                writer.join(tape.kind);
                return AT_ONE;
            }
            if (open == 0) {
                writer.endAny();
                return readBehindChange();
            }
            if (tape.kind != ')') {
                return faulty(FORM);
            }
            open--;
            writer.closeBracket();
            return BEHIND_ONE;
        }

        private int readTerm() {
            if (tape.kind != NUMBER && tape.kind != NAME) {
                return noName();
            }
            terms++;
            if (terms > TERMS) {
                return faulty(MANY);
            }
            if (tape.kind == NUMBER) {
                number = tape.value;
                return BEHIND_NUMBER;
            }
            writer.write(Change.step(NUMBER, tape.value, 1));
            return BEHIND_TERM;
        }

        private int readBehindNumber() {
            if (tape.kind == '*') {
                return AT_FACTOR;
            }
            writer.write(Change.step(NUMBER, UNIT, number));
            return readBehindTerm();
        }

        private int readFactor() {
            if (tape.kind != NAME) {
                return noName();
            }
            writer.write(Change.step(NUMBER, tape.value, number));
            return BEHIND_TERM;
        }

        private int readBehindTerm() {
            return tape.kind == '+' ? AT_TERM : readBehindChange();
        }

        private int noName() {
            return faulty(tape.kind == WORD ? NO_NAME : FORM);
        }

        private int faulty(int which) {
            found = which;
            return ENDED;
        }
    }

    /** One CHANGE of a SCHEME; that of an ORDER has the number 0, which no CLAUSE has. */
    private static final class Change {
        private static final int DOES_BITS = 7;
        private static final int NAME_BITS = 3;

        final int scheme;
        final int will;
        final int day;
        final int what;
        final int number;
        final int[] code;

        Change(int scheme, int will, int day, int what, int number, int[] code) {
            this.scheme = scheme;
            this.will = will;
            this.day = day;
            this.what = what;
            this.number = number;
            this.code = code;
        }

        /** A comparison or a TERM; "not", "and", "or" are steps as they are, without NAME and NUMBER. */
        static int step(int does, int name, int number) {
            return (number << NAME_BITS | name) << DOES_BITS | does;
        }

        boolean holdsFor(Person person, int on) {
            // The truths are a stack of bits; there are 20 comparisons at most, so they fit an int.
            int truths = 0;
            for (int i = 0; i < code.length; i++) {
                int does = doesOf(code[i]);
                if (does == NOT) {
                    truths ^= 1;
                } else if (does == AND) {
                    truths = truths >> 1 & (truths | ~1);
                } else if (does == OR) {
                    truths = truths >> 1 | truths & 1;
                } else {
                    int told = person.tell(nameOf(code[i]), on);
                    truths = truths << 1 | (compares(told, does, numberOf(code[i])) ? 1 : 0);
                }
            }
            return (truths & 1) == 1;
        }

        int sumFor(Person person, int on) {
            int sum = 0;
            for (int i = 0; i < code.length; i++) {
                sum += numberOf(code[i]) * person.tell(nameOf(code[i]), on);
            }
            return sum;
        }

        private static boolean compares(int told, int sign, int number) {
            switch (sign) {
                case '<':
                    return told < number;
                case '>':
                    return told > number;
                default:
                    return told == number;
            }
        }

        private static int doesOf(int step) {
            return step & (1 << DOES_BITS) - 1;
        }

        private static int nameOf(int step) {
            return step >> DOES_BITS & (1 << NAME_BITS) - 1;
        }

        private static int numberOf(int step) {
            return step >> DOES_BITS + NAME_BITS;
        }
    }

    /** What a WILL says on a DAY; one is kept and settled anew for each call. */
    private static final class Standing {
        final Change[] latest = new Change[CLAUSES + 1];

        /** The changes come as they were told, so of one day the later one takes the place. */
        void settle(ArrayList<Change> changes, int will, int day) {
            for (int i = 0; i < latest.length; i++) {
                latest[i] = null;
            }
            for (int i = 0; i < changes.size(); i++) {
                Change change = changes.get(i);
                if (change.will == will && change.day <= day) {
                    consider(change);
                }
            }
        }

        Change clauseAt(int number) {
            if (number < 1 || number >= latest.length) {
                return null;
            }
            Change change = latest[number];
            return change != null && change.what == PUT ? change : null;
        }

        int howMany() {
            int standing = 0;
            for (int number = 1; number <= CLAUSES; number++) {
                if (clauseAt(number) != null) {
                    standing++;
                }
            }
            return standing;
        }

        int firstBar(Person person, int day) {
            for (int number = 1; number <= CLAUSES; number++) {
                Change put = clauseAt(number);
                if (put != null && !put.holdsFor(person, day)) {
                    return number;
                }
            }
            return NOBODY;
        }

        boolean admits(Person person, int day) {
            if (person.asked > day || person.died <= day) {
                return false;
            }
            return howMany() > 0 && firstBar(person, day) == NOBODY;
        }

        int rank(Person person, int day) {
            Change order = latest[0];
            return order == null ? 0 : order.sumFor(person, day);
        }

        private void consider(Change change) {
            int number = change.number;
            if (number < 0 || number >= latest.length) {
                return;
            }
            Change other = latest[number];
            if (other == null || change.day >= other.day) {
                latest[number] = change;
            }
        }
    }

    // ---- who and what the house has

    private static final class Person {
        final int birth;
        final int coming;
        final boolean kin;
        final int asked;
        final int[] meansDays = new int[MEANS_TOLD];
        final int[] meansValues = new int[MEANS_TOLD];
        int told;
        int died = NEVER;
        int room = NONE;
        int owed;
        int got;

        Person(int birth, int coming, boolean kin, int asked) {
            this.birth = birth;
            this.coming = coming;
            this.kin = kin;
            this.asked = asked;
        }

        void tellMeans(int day, int v) {
            if (told < meansDays.length && told < meansValues.length) {
                meansDays[told] = day;
                meansValues[told] = v;
                told++;
            }
        }

        int tell(int name, int day) {
            switch (name) {
                case AGE:
                    return Math.max(0, day - birth) / YEAR;
                case YEARS:
                    return Math.max(0, day - coming) / YEAR;
                case MEANS:
                    return meansOn(day);
                case KIN:
                    return kin ? 1 : 0;
                case WAITS:
                    return Math.max(0, day - asked);
                default:
                    return 1;
            }
        }

        private int meansOn(int day) {
            int since = NONE;
            int held = 0;
            for (int i = 0; i < told && i < meansDays.length; i++) {
                if (meansDays[i] <= day && meansDays[i] >= since) {
                    since = meansDays[i];
                    held = meansValues[i];
                }
            }
            return held;
        }
    }

    private static final class Room {
        final int will;
        Stay stay;
        int giver = NOBODY;

        Room(int will) {
            this.will = will;
        }
    }

    /** A stay is its person's at the end of each day from the first one on, until the day it ends. */
    private static final class Stay {
        final int room;
        final int person;
        final int from;
        int until = NEVER;

        Stay(int room, int person, int from) {
            this.room = room;
            this.person = person;
            this.from = from;
        }
    }

    private static final class Trustees {
        final boolean[] absent = new boolean[TRUSTEES];
        int size;
        int turn;

        void setAbsent(int trustee, boolean is) {
            if (trustee >= 0 && trustee < absent.length) {
                absent[trustee] = is;
            }
        }

        /** Who gives a room now: the first from the turn on, round, that is there. */
        int giver() {
            int trustee = turn;
            for (int i = 0; i < size; i++) {
                if (trustee >= 0 && trustee < absent.length && !absent[trustee]) {
                    return trustee;
                }
                trustee = behind(trustee);
            }
            return NONE;
        }

        void moveTurnBehind(int giver) {
            turn = behind(giver);
        }

        private int behind(int trustee) {
            return trustee + 1 < size ? trustee + 1 : 0;
        }
    }

    private static final class Land {
        final int rent;
        final int each;
        final int first;

        Land(int rent, int each, int first) {
            this.rent = rent;
            this.each = each;
            this.first = first;
        }

        boolean isDueOn(int day) {
            return each > 0 && day >= first && (day - first) % each == 0;
        }
    }

    private static final class Chest {
        int content;
        long rents;

        /** A rent that the chest can't hold is lost, but it came. */
        void takeIn(int rent) {
            rents += rent;
            content = Math.min(CHEST_HOLDS, content + rent);
        }

        int payOut(int due) {
            int given = Math.min(due, content);
            content -= given;
            return given;
        }
    }
}
