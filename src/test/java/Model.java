import java.util.ArrayList;
import java.util.Comparator;
import java.util.HashMap;
import java.util.List;
import java.util.Map;
import java.util.TreeMap;
import java.util.function.IntUnaryOperator;
import java.util.function.Predicate;
import java.util.function.ToIntFunction;
import java.util.regex.Matcher;
import java.util.regex.Pattern;

/** The document told a second time, with the whole library and by other ways, to hold the class against. */
final class Model {
    static final class Fault extends RuntimeException {
        private static final long serialVersionUID = 1L;
        final int number;
        final int place;

        Fault(int number, int place) {
            this.number = number;
            this.place = place;
        }
    }

    record Token(String text, int place) {
        boolean is(String what) {
            return text.equals(what);
        }

        boolean isNumber() {
            return text.matches("[0-9]+");
        }

        boolean isWord() {
            return text.matches("[a-z]+");
        }
    }

    /** What a change does; a condition or a sum is asked with the facts of somebody by name. */
    record Alteration(int scheme, int will, int day, String key, Predicate<Facts> rule, ToIntFunction<Facts> sum) {
    }

    interface Facts {
        int of(String name);
    }

    static final class Somebody {
        int number;
        int birth;
        int coming;
        boolean kin;
        int asked;
        int died = 1 << 30;
        int got;
        int owed;
        TreeMap<Integer, Integer> means = new TreeMap<>();
        int told;
    }

    static final class Chamber {
        int will;
        Somebody holder;
        int since;
        int giver = -2;
        /** Who had it at the end of each day that is past. */
        Map<Integer, Integer> past = new HashMap<>();
    }

    static final List<String> NAMES = List.of("age", "years", "means", "kin", "waits");
    static final List<String> KEYS = List.of("put", "strike", "order", "or", "and", "not");

    int wills;
    int schemes;
    String tape = "";
    int fault;
    int place;
    int trouble;
    int today;
    int stays;
    int turn;
    int dole = 10;
    int chest;
    long rents;
    List<Alteration> alterations = new ArrayList<>();
    List<Somebody> people = new ArrayList<>();
    List<Chamber> rooms = new ArrayList<>();
    List<Boolean> away = new ArrayList<>();
    List<int[]> lands = new ArrayList<>();

    // ---- the texts

    static final class Parser {
        final List<Token> tokens = new ArrayList<>();
        int at;
        int comparisons;
        int changes;

        Parser(String text) {
            Matcher m = Pattern.compile("[a-z]+|[0-9]+|[^ ]", Pattern.DOTALL).matcher(text);
            while (m.find()) {
                String t = m.group();
                boolean good = t.matches("[a-z]{1,8}|[0-9]{1,4}|[<>=()+*;]");
                tokens.add(new Token(good ? t : "?", m.start()));
            }
            tokens.add(new Token("", text.length()));
        }

        Token now() {
            return tokens.get(at);
        }

        boolean takes(String what) {
            if (now().is(what)) {
                at++;
                return true;
            }
            return false;
        }

        Fault form() {
            return new Fault(1, now().place);
        }

        List<Alteration> text(int scheme, int will, int day) {
            List<Alteration> all = new ArrayList<>();
            do {
                all.add(change(scheme, will, day));
            } while (takes(";"));
            if (!now().is("")) {
                throw form();
            }
            return all;
        }

        Alteration change(int scheme, int will, int day) {
            Token first = now();
            if (!List.of("put", "strike", "order").contains(first.text)) {
                throw form();
            }
            if (++changes == 13) {
                throw new Fault(4, first.place);
            }
            at++;
            if (first.is("order")) {
                return new Alteration(scheme, will, day, "order", null, sum());
            }
            if (!now().isNumber()) {
                throw form();
            }
            int number = Integer.parseInt(now().text);
            if (number < 1 || number > 12) {
                throw new Fault(3, now().place);
            }
            at++;
            return new Alteration(scheme, will, day, "" + number, first.is("put") ? any(0) : null, null);
        }

        Predicate<Facts> any(int open) {
            Predicate<Facts> rule = all(open);
            while (takes("or")) {
                rule = rule.or(all(open));
            }
            return rule;
        }

        Predicate<Facts> all(int open) {
            Predicate<Facts> rule = one(open, 0);
            while (takes("and")) {
                rule = rule.and(one(open, 0));
            }
            return rule;
        }

        Predicate<Facts> one(int open, int nots) {
            Token first = now();
            if (takes("not")) {
                if (nots == 8) {
                    throw new Fault(4, first.place);
                }
                return one(open, nots + 1).negate();
            }
            if (takes("(")) {
                if (open == 8) {
                    throw new Fault(4, first.place);
                }
                Predicate<Facts> inside = any(open + 1);
                if (!takes(")")) {
                    throw form();
                }
                return inside;
            }
            String name = name();
            if (++comparisons == 21) {
                throw new Fault(4, first.place);
            }
            String sign = now().text;
            if (!List.of("<", ">", "=").contains(sign)) {
                throw form();
            }
            at++;
            int number = number();
            return f -> sign.equals(Integer.compare(f.of(name), number) < 0 ? "<" : f.of(name) == number ? "=" : ">");
        }

        String name() {
            Token token = now();
            if (NAMES.contains(token.text)) {
                at++;
                return token.text;
            }
            throw token.isWord() && !KEYS.contains(token.text) ? new Fault(2, token.place) : form();
        }

        int number() {
            if (!now().isNumber()) {
                throw form();
            }
            at++;
            return Integer.parseInt(tokens.get(at - 1).text);
        }

        ToIntFunction<Facts> sum() {
            List<ToIntFunction<Facts>> terms = new ArrayList<>();
            do {
                boolean stands = now().isNumber() || NAMES.contains(now().text);
                if (stands && terms.size() == 4) {
                    throw new Fault(4, now().place);
                }
                terms.add(term());
            } while (takes("+"));
            return f -> terms.stream().mapToInt(t -> t.applyAsInt(f)).sum();
        }

        ToIntFunction<Facts> term() {
            if (!now().isNumber()) {
                String name = name();
                return f -> f.of(name);
            }
            int number = number();
            if (!now().is("*")) {
                return f -> number;
            }
            at++;
            String name = name();
            return f -> number * f.of(name);
        }
    }

    // ---- the calls

    private int no(int why) {
        trouble = why;
        return -1;
    }

    private int yes(int answer) {
        trouble = 0;
        return answer;
    }

    private boolean day(int day) {
        return 0 <= day && day <= 40000;
    }

    private boolean aWill(int will) {
        return 0 <= will && will < wills;
    }

    private <T> T pick(List<T> of, int number) {
        return 0 <= number && number < of.size() ? of.get(number) : null;
    }

    int will() {
        return wills == 4 ? no(3) : yes(wills++);
    }

    int feed(int... numbers) {
        if (tape.length() > 280) {
            return -1;
        }
        StringBuilder more = new StringBuilder(tape);
        for (int number : numbers) {
            for (byte b : java.nio.ByteBuffer.allocate(4).putInt(number).array()) {
                more.append((char) (b & 255));
            }
        }
        tape = more.toString();
        return tape.length();
    }

    int scheme(int will, int day, int n) {
        if (!aWill(will)) {
            return no(1);
        }
        if (!day(day) || n < 0 || n > tape.length()) {
            return no(2);
        }
        String text = tape.substring(0, n);
        tape = "";
        fault = 0;
        try {
            List<Alteration> more = new Parser(text).text(schemes, will, day);
            if (schemes == 40) {
                return no(3);
            }
            alterations.addAll(more);
            return yes(schemes++);
        } catch (Fault met) {
            fault = met.number;
            place = met.place;
            return no(4);
        }
    }

    int where() {
        return trouble == 4 ? place : -1;
    }

    private Alteration standing(int will, String key, int day) {
        return alterations.stream().filter(a -> a.will == will && a.key.equals(key) && a.day <= day)
                .reduce((a, b) -> b.day >= a.day ? b : a).orElse(null);
    }

    private Alteration put(int will, int number, int day) {
        Alteration a = standing(will, "" + number, day);
        return a == null || a.rule == null ? null : a;
    }

    int clause(int will, int number, int day) {
        if (!aWill(will) || !day(day) || number < 1 || number > 12) {
            return -1;
        }
        Alteration a = put(will, number, day);
        return a == null ? -2 : a.scheme;
    }

    int clauses(int will, int day) {
        if (!aWill(will) || !day(day)) {
            return -1;
        }
        int have = 0;
        for (int number = 1; number <= 12; number++) {
            have += put(will, number, day) == null ? 0 : 1;
        }
        return have;
    }

    int person(int birth, int coming, boolean kin) {
        if (!(-40000 <= birth && birth <= coming && coming <= today)) {
            return no(2);
        }
        if (people.size() == 40) {
            return no(3);
        }
        Somebody s = new Somebody();
        s.number = people.size();
        s.birth = birth;
        s.coming = coming;
        s.kin = kin;
        s.asked = today;
        people.add(s);
        return yes(s.number);
    }

    int means(int person, int day, int v) {
        Somebody s = pick(people, person);
        if (s == null) {
            return no(1);
        }
        if (!day(day) || v < 0 || v > 9999) {
            return no(2);
        }
        if (s.told == 6) {
            return no(3);
        }
        s.means.put(day, v);
        return yes(++s.told);
    }

    boolean dies(int person) {
        Somebody s = pick(people, person);
        if (s == null || s.died <= today) {
            no(s == null ? 1 : 5);
            return false;
        }
        s.died = today;
        s.owed = 0;
        rooms.stream().filter(r -> r.holder == s).forEach(r -> r.holder = null);
        yes(0);
        return true;
    }

    private int fact(Somebody s, int day, String name) {
        IntUnaryOperator years = since -> day < since ? 0 : (day - since) / 365;
        switch (name) {
            case "age":
                return years.applyAsInt(s.birth);
            case "years":
                return years.applyAsInt(s.coming);
            case "means":
                return s.means.floorKey(day) == null ? 0 : s.means.floorEntry(day).getValue();
            case "kin":
                return s.kin ? 1 : 0;
            default:
                return day < s.asked ? 0 : day - s.asked;
        }
    }

    int fact(int person, int day, int what) {
        Somebody s = pick(people, person);
        return s == null || !day(day) || what < 0 || what > 4 ? -1 : fact(s, day, NAMES.get(what));
    }

    private int bar(Somebody s, int will, int day) {
        for (int number = 1; number <= 12; number++) {
            Alteration a = put(will, number, day);
            if (a != null && !a.rule.test(name -> fact(s, day, name))) {
                return number;
            }
        }
        return -2;
    }

    private boolean comes(Somebody s, int will, int day) {
        return clauses(will, day) > 0 && bar(s, will, day) == -2 && s.asked <= day && s.died > day;
    }

    private int rank(Somebody s, int will, int day) {
        Alteration a = standing(will, "order", day);
        return a == null ? 0 : a.sum.applyAsInt(name -> fact(s, day, name));
    }

    private boolean others(int person, int will, int day) {
        return pick(people, person) == null || !aWill(will) || !day(day);
    }

    int may(int person, int will, int day) {
        return others(person, will, day) ? -1 : comes(people.get(person), will, day) ? 1 : 0;
    }

    int bars(int person, int will, int day) {
        return others(person, will, day) ? -1 : bar(people.get(person), will, day);
    }

    int order(int person, int will, int day) {
        return others(person, will, day) ? -1 : rank(people.get(person), will, day);
    }

    int list(int will, int day) {
        return !aWill(will) || !day(day) ? -1 : (int) people.stream().filter(s -> comes(s, will, day)).count();
    }

    int next(int will, int day) {
        if (!aWill(will) || !day(day)) {
            return -1;
        }
        return people.stream()
                .filter(s -> comes(s, will, day) && rooms.stream().noneMatch(r -> r.holder == s))
                .sorted(Comparator.<Somebody>comparingInt(s -> -rank(s, will, day))
                        .thenComparingInt(s -> s.asked).thenComparingInt(s -> s.number))
                .mapToInt(s -> s.number).findFirst().orElse(-2);
    }

    int room(int will) {
        if (!aWill(will)) {
            return no(1);
        }
        if (rooms.size() == 20) {
            return no(3);
        }
        Chamber r = new Chamber();
        r.will = will;
        rooms.add(r);
        return yes(rooms.size() - 1);
    }

    int trustee() {
        if (away.size() == 8) {
            return no(3);
        }
        away.add(false);
        return yes(away.size() - 1);
    }

    boolean away(int trustee, boolean is) {
        if (pick(away, trustee) == null) {
            no(1);
            return false;
        }
        away.set(trustee, is);
        yes(0);
        return true;
    }

    int fill(int room) {
        Chamber r = pick(rooms, room);
        if (r == null) {
            return no(1);
        }
        if (r.holder != null) {
            return no(5);
        }
        int who = next(r.will, today);
        if (!away.contains(false) || who < 0) {
            return no(6);
        }
        if (stays == 100) {
            return no(3);
        }
        while (away.get(turn)) {
            turn = (turn + 1) % away.size();
        }
        r.giver = turn;
        turn = (turn + 1) % away.size();
        r.holder = people.get(who);
        r.since = today;
        stays++;
        return yes(who);
    }

    int leave(int room) {
        Chamber r = pick(rooms, room);
        if (r == null || r.holder == null) {
            return no(r == null ? 1 : 6);
        }
        Somebody s = r.holder;
        r.holder = null;
        s.owed = 0;
        return yes(s.number);
    }

    int roomOf(int room, int what) {
        Chamber r = pick(rooms, room);
        if (r == null || what < 0 || what > 3) {
            return -1;
        }
        int[] told = {r.will, r.holder == null ? -2 : r.holder.number, r.holder == null ? -2 : r.since, r.giver};
        return told[what];
    }

    int had(int room, int day) {
        Chamber r = pick(rooms, room);
        return r == null || day < 0 || day >= today ? -1 : r.past.getOrDefault(day, -2);
    }

    int land(int rent, int each, int first) {
        if (rent < 0 || rent > 9999 || each < 1 || each > 400 || first <= today || first > 40000) {
            return no(2);
        }
        if (lands.size() == 10) {
            return no(3);
        }
        lands.add(new int[] {rent, each, first});
        return yes(lands.size() - 1);
    }

    boolean dole(int v) {
        if (v < 0 || v > 999) {
            no(2);
            return false;
        }
        dole = v;
        yes(0);
        return true;
    }

    int pass(int days) {
        if (days < 1 || days > 400 || (long) today + days > 40000) {
            return no(2);
        }
        for (int i = 0; i < days; i++) {
            for (Chamber r : rooms) {
                r.past.put(today, r.holder == null ? -2 : r.holder.number);
            }
            today++;
            for (int[] land : lands) {
                if (today >= land[2] && (today - land[2]) % land[1] == 0) {
                    rents += land[0];
                    chest = Math.min(1000000, chest + land[0]);
                }
            }
            for (Chamber r : rooms) {
                if (today % 7 == 0 && r.holder != null) {
                    r.holder.owed += dole;
                    int paid = Math.min(chest, r.holder.owed);
                    chest -= paid;
                    r.holder.owed -= paid;
                    r.holder.got += paid;
                }
            }
        }
        return yes(today);
    }

    int owed(int person) {
        return pick(people, person) == null ? -1 : people.get(person).owed;
    }

    int got(int person) {
        return pick(people, person) == null ? -1 : people.get(person).got;
    }

    int count(int what) {
        int vacant = (int) rooms.stream().filter(r -> r.holder == null).count();
        int[] told = {wills, schemes, people.size(), rooms.size(), vacant, away.size(), away.isEmpty() ? -1 : turn,
            today, chest, rents > 2000000000L ? 2000000000 : (int) rents, lands.size(), tape.length()};
        return what < 0 || what >= told.length ? -1 : told[what];
    }
}
