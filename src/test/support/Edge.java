import java.util.HashSet;
import java.util.Set;

/** What the edge tests share: the answers that are due, refusals that change nothing, small lands to ask about. */
final class Edge {
    static final int NONE = -1, UNKNOWN = -101, OUTSIDE = -102, STATE = -103, FULL = -104;
    static final int DEED = 0, SALE = 1, GIFT = 2, DEBT = 3, DARK = 4;
    static final int LEAST = Integer.MIN_VALUE, MOST = Integer.MAX_VALUE;
    private static String sentence = "";
    private static final Set<String> sentences = new HashSet<>();
    private static int answers = 0;
    private static int wrong = 0;

    private Edge() {
    }

    interface Call {
        long on(OughtKnown x);
    }

    /** The sentence of the document that the next answers hold it to. */
    static void says(String words) {
        sentence = words;
        sentences.add(words);
    }

    static void due(String what, long got, long want) {
        answers++;
        if (got != want) {
            wrong++;
            System.out.println("\"" + sentence + "\": " + what + " answered " + got + ", due is " + want);
        }
    }

    static void refused(String what, int want, OughtKnown x, Call call) {
        long before = x.digest();
        due(what, call.on(x), want);
        due(what + ", changes nothing: digest()", x.digest(), before);
    }

    static long word(String text) {
        long w = 0;
        for (int i = text.length() - 1; i >= 0; i--) {
            w = w << 8 | text.charAt(i);
        }
        return w;
    }

    /** THE PAGE bears this text and nothing else. */
    static void write(OughtKnown x, String text) {
        x.blank();
        for (int i = 0; i < text.length(); i += 8) {
            x.letters(word(text.substring(i, Math.min(text.length(), i + 8))));
        }
    }

    static int law(OughtKnown x, String text) {
        write(x, text);
        return x.law();
    }

    /** PEOPLE whose NAMES are their numbers (10 and 11: 0 and 1 again), and FIELDS of the PERSON 0. */
    static OughtKnown land(int people, int fields) {
        OughtKnown x = new OughtKnown();
        for (int i = 0; i < people; i++) {
            x.person(i % 10);
        }
        for (int i = 0; i < fields; i++) {
            x.field(0);
        }
        return x;
    }

    static int entered(OughtKnown x, int kind, int field, int from, int to, int day, int entry) {
        int deed = x.deed(kind, field, from, to, day);
        x.enter(deed, entry, NONE, NONE);
        return deed;
    }

    static int written(OughtKnown x, int kind, int from, int to, int entry, int giver, int taker) {
        int deed = x.deed(kind, 0, from, to, 0);
        x.enter(deed, entry, giver, taker);
        return deed;
    }

    static int bits(int... numbers) {
        int set = 0;
        for (int number : numbers) {
            set |= 1 << number;
        }
        return set;
    }

    static void end() {
        System.out.println(sentences.size() + " sentences, " + answers + " answers, " + wrong + " not as due");
        if (wrong != 0) {
            System.exit(1);
        }
    }
}
