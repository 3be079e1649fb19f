import java.util.ArrayDeque;
import java.util.Deque;
import java.util.HashMap;
import java.util.List;
import java.util.Map;
import java.util.Set;
import java.util.TreeSet;

/**
 * Term II, "TOKEN with which no text goes on": every beginning of a text up to some TOKENS, with every TOKEN behind it.
 * What may come next is found from the document's rules alone, by writing them out, and not by a reader made by hand.
 */
public final class GrammarTest {
    /** Few enough that none of these texts has MANY of anything, which the rules don't tell. */
    private static final int TOKENS = 7;
    private static final Check check = new Check();
    private static final Map<String, List<String>> RULES = new HashMap<>();
    private static final Map<Set<String>, Set<String>> WRITTEN_OUT = new HashMap<>();
    private static final String[] SIGNS = {"<", ">", "=", "(", ")", "+", "*", ";"};
    private static final String[] KEYS = {"put", "strike", "order", "or", "and", "not"};

    public static void main(String[] args) {
        // A rule that says {; CHANGE} is written with itself at its end: that makes the same texts.
        rule("TEXT: CHANGE {; CHANGE}", "TEXT", "CHANGE", "CHANGE ; TEXT");
        rule("CHANGE: put NUMBER ANY, strike NUMBER, order SUM", "CHANGE", "put NUMBER ANY", "strike NUMBER",
                "order SUM");
        rule("ANY: ALL {or ALL}", "ANY", "ALL", "ALL or ANY");
        rule("ALL: ONE {and ONE}", "ALL", "ONE", "ONE and ALL");
        rule("ONE: not ONE, ( ANY ), NAME < NUMBER, NAME > NUMBER, NAME = NUMBER", "ONE", "not ONE", "( ANY )",
                "NAME < NUMBER", "NAME > NUMBER", "NAME = NUMBER");
        rule("SUM: TERM {+ TERM}", "SUM", "TERM", "TERM + SUM");
        rule("TERM: NUMBER [* NAME] or NAME", "TERM", "NUMBER", "NUMBER * NAME", "NAME");
        check.says("II", "TOKEN with which no text goes on (the end: its place)");
        goOn("", Set.of("TEXT"), TOKENS);
        check.end("GrammarTest");
    }

    private static void rule(String words, String of, String... ways) {
        check.says("II", words);
        RULES.put(of, List.of(ways));
    }

    /** The text so far, and all that may yet come behind it, as rows of TOKENS and names of rules. */
    private static void goOn(String text, Set<String> rest, int more) {
        Set<String> due = writtenOut(rest);
        check.reads(text, due.contains("") ? 0 : 1, due.contains("") ? -1 : text.length());
        for (String sign : SIGNS) {
            put(text, sign, sign, due, more);
        }
        for (String key : KEYS) {
            put(text, key, key, due, more);
        }
        put(text, "7", "NUMBER", due, more);
        put(text, "kin", "NAME", due, more);
        put(text, "kind", "WORD", due, more);
        put(text, "?", "BAD", due, more);
    }

    private static void put(String text, String token, String kind, Set<String> due, int more) {
        Set<String> rest = behind(due, kind);
        String longer = text + token + " ";
        if (rest.isEmpty()) {
            boolean forName = kind.equals("WORD") && !behind(due, "NAME").isEmpty();
            check.reads(longer, forName ? 2 : 1, text.length());
        } else if (more > 0) {
            goOn(longer, rest, more - 1);
        }
    }

    /** The rows with the rules at their beginnings written out, so that each begins with a TOKEN or is empty. */
    private static Set<String> writtenOut(Set<String> rows) {
        Set<String> known = WRITTEN_OUT.get(rows);
        if (known != null) {
            return known;
        }
        Set<String> out = new TreeSet<>();
        Deque<String> open = new ArrayDeque<>(rows);
        while (!open.isEmpty()) {
            String row = open.pop();
            String first = first(row);
            if (RULES.containsKey(first)) {
                for (String way : RULES.get(first)) {
                    open.push((way + " " + row.substring(first.length()).strip()).strip());
                }
            } else {
                out.add(row);
            }
        }
        WRITTEN_OUT.put(rows, out);
        return out;
    }

    private static Set<String> behind(Set<String> rows, String kind) {
        Set<String> rest = new TreeSet<>();
        for (String row : rows) {
            if (!row.isEmpty() && first(row).equals(kind)) {
                rest.add(row.substring(kind.length()).strip());
            }
        }
        return rest;
    }

    private static String first(String row) {
        int blank = row.indexOf(' ');
        return blank < 0 ? row : row.substring(0, blank);
    }
}
