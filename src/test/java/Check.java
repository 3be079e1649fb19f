/** Counts answers that are not as due, and has what the tests say often. */
final class Check {
    private int asked;
    private int wrong;
    private String sentence = "";

    /** Names the part of the document and the words of it that the answers from here on hold to. */
    void says(String part, String words) {
        sentence = part + " [" + words + "] ";
        due("stands in the document", Document.says(part, words), true);
    }

    void due(String call, long got, long want) {
        asked++;
        if (got != want) {
            wrong++;
            System.out.println(sentence + call + " answered " + got + ", due is " + want);
        }
    }

    void due(String call, boolean got, boolean want) {
        due(call, got ? 1 : 0, want ? 1 : 0);
    }

    /** What a call answered, and the TROUBLE that it left in x. */
    void due(String call, long got, long want, AlmsHouse x, int trouble) {
        due(call, got, want);
        due(call + ": trouble()", x.trouble(), trouble);
    }

    /** A TEXT read from a new tape: its FAULT (0: none) and that one's place (-1: none). */
    void reads(String text, int fault, int place) {
        AlmsHouse x = withWills(1);
        String call = "\"" + text + "\"";
        due(call, scheme(x, 0, 0, text), fault == 0 ? 0 : -1, x, fault == 0 ? 0 : 4);
        due(call + ": fault()", x.fault(), fault);
        due(call + ": where()", x.where(), place);
        due(call + ": count(1)", x.count(1), fault == 0 ? 1 : 0);
    }

    /** Ends the test: exit code 1 if an answer was wrong. */
    void end(String name) {
        System.out.println(name + ": " + asked + " answers, " + wrong + " wrong");
        if (wrong != 0 || asked == 0) {
            System.exit(1);
        }
    }

    static AlmsHouse withWills(int wills) {
        AlmsHouse x = new AlmsHouse();
        for (int i = 0; i < wills; i++) {
            x.will();
        }
        return x;
    }

    /** A house with one will that has one clause which all meet, so many trustees, and so many rooms. */
    static AlmsHouse open(int trustees, int rooms) {
        AlmsHouse x = withWills(1);
        scheme(x, 0, 0, "put 1 age > 0 or age = 0");
        for (int i = 0; i < trustees; i++) {
            x.trustee();
        }
        for (int i = 0; i < rooms; i++) {
            x.room(0);
        }
        return x;
    }

    static void feed(AlmsHouse x, String text) {
        for (int at = 0; at < text.length(); at += 20) {
            x.feed(four(text, at), four(text, at + 4), four(text, at + 8), four(text, at + 12), four(text, at + 16));
        }
    }

    static int scheme(AlmsHouse x, int will, int day, String text) {
        feed(x, text);
        return x.scheme(will, day, text.length());
    }

    /** Four bytes from a place on, the highest first; blanks behind the text's end. */
    static int four(String text, int at) {
        int number = 0;
        for (int i = at; i < at + 4; i++) {
            number = number << 8 | (i < text.length() ? text.charAt(i) & 255 : ' ');
        }
        return number;
    }

    static String repeat(String part, int times, String between) {
        StringBuilder all = new StringBuilder();
        for (int i = 0; i < times; i++) {
            all.append(i == 0 ? "" : between).append(part);
        }
        return all.toString();
    }
}
