/** The edges that promises 1 to 10 name, and the first section of the terms: people, fields, deeds. */
public final class EdgeBooksTest {
    private static void due(String what, long got, long want) {
        Edge.due(what, got, want);
    }

    private static void newObject() {
        Edge.says("1: Nobody, no fields");
        OughtKnown x = new OughtKnown();
        for (int what = 0; what <= 5; what++) {
            due("count(" + what + ")", x.count(what), 0);
        }
        due("field(0)", x.field(0), Edge.UNKNOWN);
        due("deed(0, 0, 0, 1, 0)", x.deed(0, 0, 0, 1, 0), Edge.UNKNOWN);
        due("as(0, 0)", x.as(0, 0), Edge.UNKNOWN);
        due("about(0, 0)", x.about(0, 0), Edge.UNKNOWN);
        due("enter(0, 0, NONE, NONE)", x.enter(0, 0, -1, -1), Edge.UNKNOWN);
        due("leaf(0, true)", x.leaf(0, true), Edge.UNKNOWN);
        due("knew(0, 0)", x.knew(0, 0), Edge.UNKNOWN);
        due("lives(0, NONE, 0)", x.lives(0, -1, 0), Edge.UNKNOWN);
        due("search(0, 0, 0, 0)", x.search(0, 0, 0, 0), Edge.UNKNOWN);
        due("wild(0)", x.wild(0), Edge.UNKNOWN);
        due("first(0, 0)", x.first(0, 0), Edge.UNKNOWN);
        due("moves(0, 0)", x.moves(0, 0), Edge.UNKNOWN);
        due("the first person", x.person(0), 0);
        due("the first field", x.field(0), 0);
        OughtKnown other = new OughtKnown();
        due("another object has nobody", other.count(0) + other.count(1), 0);
    }

    private static void people() {
        Edge.says("1: PEOPLE (12 at most, numbered) have a NAME (0 to 9; several may have the same)");
        OughtKnown x = new OughtKnown();
        int[] outside = {-1, 10, Edge.LEAST, Edge.MOST, 256, -256};
        for (int name : outside) {
            Edge.refused("person(" + name + ")", Edge.OUTSIDE, x, y -> y.person(name));
        }
        for (int i = 0; i < 12; i++) {
            int name = i < 10 ? i : 9;
            due("person " + i, x.person(name), i);
        }
        Edge.refused("the thirteenth", Edge.FULL, x, y -> y.person(0));
        Edge.refused("the thirteenth, a name that is outside", Edge.OUTSIDE, x, y -> y.person(10));
        due("people", x.count(0), 12);
        due("the last one is known", x.field(11), 0);
        Edge.refused("one behind is not", Edge.UNKNOWN, x, y -> y.field(12));
        OughtKnown same = new OughtKnown();
        for (int i = 0; i < 12; i++) {
            due("the same name again, " + i, same.person(4), i);
        }
    }

    private static void fields() {
        Edge.says("3: A FIELD with a ROOT: its number. UNKNOWN: root; FULL (6 at most)");
        OughtKnown x = Edge.land(3, 0);
        int[] unknown = {-1, 3, Edge.LEAST, Edge.MOST};
        for (int root : unknown) {
            Edge.refused("field(" + root + ")", Edge.UNKNOWN, x, y -> y.field(root));
        }
        for (int i = 0; i < 6; i++) {
            due("field " + i, x.field(i % 3), i);
        }
        Edge.refused("the seventh", Edge.FULL, x, y -> y.field(0));
        Edge.refused("the seventh, of nobody", Edge.UNKNOWN, x, y -> y.field(3));
        due("fields", x.count(1), 6);
        int d = Edge.law(x, "dx");
        for (int i = 0; i < 6; i++) {
            due("the root of field " + i, x.whose(d, i, 0), i % 3);
        }
        Edge.refused("no field behind the last", Edge.UNKNOWN, x, y -> y.wild(6));
    }

    private static void deedsAtMost() {
        Edge.says("DEEDS (16 at most, numbered)");
        OughtKnown x = Edge.land(12, 6);
        for (int i = 0; i < 16; i++) {
            due("deed " + i, x.deed(i % 5, i % 6, i % 12, (i + 1) % 12, i), i);
        }
        Edge.refused("the seventeenth", Edge.FULL, x, y -> y.deed(0, 0, 0, 1, 0));
        Edge.refused("the seventeenth, a wrong day", Edge.OUTSIDE, x, y -> y.deed(0, 0, 0, 1, 1000));
        Edge.refused("the seventeenth, a wrong field", Edge.UNKNOWN, x, y -> y.deed(0, 6, 0, 1, 0));
        Edge.refused("the seventeenth, a wrong kind", Edge.OUTSIDE, x, y -> y.deed(5, 6, 0, 1, 0));
        due("deeds", x.count(2), 16);
        due("the last is known", x.about(15, 4), 15);
        due("one behind is not", x.about(16, 4), Edge.UNKNOWN);
        OughtKnown one = Edge.land(2, 1);
        for (int i = 0; i < 16; i++) {
            due("deed " + i + " of one field", one.deed(1, 0, i % 2, 1 - i % 2, 5), i);
        }
        Edge.refused("the seventeenth of one field", Edge.FULL, one, y -> y.deed(1, 0, 0, 1, 5));
    }

    private static void deedEdges() {
        Edge.says("4: OUTSIDE: kind; UNKNOWN: field, from, to, or they are the same; OUTSIDE: day; FULL");
        OughtKnown x = Edge.land(3, 2);
        int[] kinds = {-1, 5, Edge.LEAST, Edge.MOST};
        for (int kind : kinds) {
            Edge.refused("kind " + kind, Edge.OUTSIDE, x, y -> y.deed(kind, 0, 0, 1, 5));
        }
        int[] persons = {-1, 3, Edge.LEAST, Edge.MOST};
        for (int who : persons) {
            Edge.refused("from " + who, Edge.UNKNOWN, x, y -> y.deed(0, 0, who, 1, 5));
            Edge.refused("to " + who, Edge.UNKNOWN, x, y -> y.deed(0, 0, 1, who, 5));
            Edge.refused("both " + who, Edge.UNKNOWN, x, y -> y.deed(0, 0, who, who, 5));
        }
        int[] places = {-1, 2, Edge.LEAST, Edge.MOST};
        for (int field : places) {
            Edge.refused("field " + field, Edge.UNKNOWN, x, y -> y.deed(0, field, 0, 1, 5));
        }
        for (int who = 0; who < 3; who++) {
            int same = who;
            Edge.refused("from and to " + who, Edge.UNKNOWN, x, y -> y.deed(0, 0, same, same, 5));
        }
        Edge.refused("the same, and a wrong day", Edge.UNKNOWN, x, y -> y.deed(0, 0, 1, 1, 1000));
        int[] days = {-1, 1000, Edge.LEAST, Edge.MOST};
        for (int day : days) {
            Edge.refused("day " + day, Edge.OUTSIDE, x, y -> y.deed(0, 0, 0, 1, day));
        }
        due("the first day", x.deed(Edge.DEED, 0, 0, 1, 0), 0);
        due("the last day, the last kind, field and person", x.deed(Edge.DARK, 1, 2, 0, 999), 1);
        due("one who has nothing may give", x.deed(Edge.SALE, 0, 2, 1, 5), 2);
    }

    private static void sameNameIsNotTheSame() {
        Edge.says("4: UNKNOWN: .. or they are the same (several may have the same NAME)");
        OughtKnown x = new OughtKnown();
        x.person(6);
        x.person(6);
        x.field(0);
        due("from one to another of the same name", x.deed(Edge.SALE, 0, 0, 1, 3), 0);
        due("it is the taker's", x.whose(Edge.law(x, "dx"), 0, 0), 1);
    }

    private static void notEntered() {
        Edge.says("4: A DEED, not entered");
        OughtKnown x = Edge.land(3, 2);
        x.deed(Edge.GIFT, 1, 2, 0, 999);
        int[] want = {Edge.GIFT, 1, 2, 0, 999, -1, -1, -1, 0, 0};
        for (int what = 0; what < 10; what++) {
            due("about(0, " + what + ")", x.about(0, what), want[what]);
        }
        due("count(5)", x.count(5), 0);
    }

    private static void kinds() {
        Edge.says("5: A DEED taken as a KIND (All are DEEDS; a DARK is a SALE, too); NONE: it is none such");
        OughtKnown x = Edge.land(2, 1);
        String[] such = {"0", "01", "02", "03", "014"};
        for (int kind = 0; kind < 5; kind++) {
            x.deed(kind, 0, 0, 1, 0);
            for (int as = 0; as < 5; as++) {
                boolean is = such[kind].indexOf('0' + as) >= 0;
                due("kind " + kind + " as " + as, x.as(kind, as), is ? kind : -1);
            }
        }
        int[] outside = {-1, 5, Edge.LEAST, Edge.MOST};
        for (int kind : outside) {
            Edge.refused("as(0, " + kind + ")", Edge.OUTSIDE, x, y -> y.as(0, kind));
            Edge.refused("as(5, " + kind + ")", Edge.UNKNOWN, x, y -> y.as(5, kind));
        }
        due("a kind stays what it is", x.about(4, 0), Edge.DARK);
    }

    private static void about() {
        Edge.says("6: what = 0 KIND .. 9 KNEW. UNKNOWN; OUTSIDE");
        OughtKnown x = Edge.land(12, 6);
        x.deed(Edge.DARK, 5, 11, 3, 0);
        x.enter(0, 999, Edge.NONE, 0);
        x.leaf(0, true);
        x.knew(0, 65535);
        int[] want = {Edge.DARK, 5, 11, 3, 0, 999, 1, 0, 1, 65535};
        for (int what = 0; what < 10; what++) {
            due("about(0, " + what + ")", x.about(0, what), want[what]);
        }
        int[] outside = {-1, 10, Edge.LEAST, Edge.MOST};
        for (int what : outside) {
            Edge.refused("about(0, " + what + ")", Edge.OUTSIDE, x, y -> y.about(0, what));
            Edge.refused("about(1, " + what + ")", Edge.UNKNOWN, x, y -> y.about(1, what));
            Edge.refused("about(-1, " + what + ")", Edge.UNKNOWN, x, y -> y.about(-1, what));
        }
    }

    private static void entryDays() {
        Edge.says("a DEED may be entered on a DAY (its own at least, 999 at most)");
        OughtKnown x = Edge.land(3, 1);
        int[] own = {0, 1, 500, 998, 999};
        for (int i = 0; i < own.length; i++) {
            int deed = x.deed(Edge.SALE, 0, 0, 1, own[i]);
            int ahead = own[i] - 1;
            Edge.refused("a day ahead of " + own[i], Edge.OUTSIDE, x, y -> y.enter(deed, ahead, -1, -1));
            Edge.refused("1000 for " + own[i], Edge.OUTSIDE, x, y -> y.enter(deed, 1000, -1, -1));
            Edge.refused("the least for " + own[i], Edge.OUTSIDE, x, y -> y.enter(deed, Edge.LEAST, -1, -1));
            Edge.refused("the most for " + own[i], Edge.OUTSIDE, x, y -> y.enter(deed, Edge.MOST, -1, -1));
            due("on its own day " + own[i], x.enter(deed, own[i], -1, -1), 1);
            due("entered on " + own[i], x.about(deed, 5), own[i]);
            int last = x.deed(Edge.SALE, 0, 0, 1, own[i]);
            due("on the last day", x.enter(last, 999, -1, -1), 1);
            due("entered on the last day", x.about(last, 5), 999);
        }
        due("all are entered", x.count(5), 10);
    }

    private static void entryNames() {
        Edge.says("7: under a GIVER's and a TAKER's NAME (NONE: by right)");
        OughtKnown x = Edge.land(12, 1);
        int[] outside = {-2, 10, Edge.LEAST, Edge.MOST};
        int first = x.deed(Edge.SALE, 0, 11, 8, 7);
        for (int name : outside) {
            Edge.refused("giver " + name, Edge.OUTSIDE, x, y -> y.enter(first, 7, name, -1));
            Edge.refused("taker " + name, Edge.OUTSIDE, x, y -> y.enter(first, 7, -1, name));
        }
        int[][] names = {{-1, -1, 1, 8}, {0, 9, 0, 9}, {9, 0, 9, 0}, {-1, 3, 1, 3}, {3, -1, 3, 8}, {8, 1, 8, 1}, {4, 4, 4, 4}};
        for (int i = 0; i < names.length; i++) {
            int deed = i == 0 ? first : x.deed(Edge.SALE, 0, 11, 8, 7);
            due("enter under " + names[i][0] + ", " + names[i][1], x.enter(deed, 7, names[i][0], names[i][1]), 1);
            due("giver as written", x.about(deed, 6), names[i][2]);
            due("taker as written", x.about(deed, 7), names[i][3]);
        }
        due("the giver himself is another matter", x.about(1, 2), 11);
    }

    private static void enteredOnce() {
        Edge.says("7: UNKNOWN: deed; OUTSIDE: day, names; STATE: it is entered");
        OughtKnown x = Edge.land(3, 1);
        x.deed(Edge.SALE, 0, 0, 1, 7);
        int[] unknown = {-1, 1, 16, Edge.LEAST, Edge.MOST};
        for (int deed : unknown) {
            Edge.refused("deed " + deed + ", all else wrong too", Edge.UNKNOWN, x, y -> y.enter(deed, -1, 10, 10));
        }
        due("entered", x.enter(0, 8, 5, 6), 1);
        Edge.refused("again, the same", Edge.STATE, x, y -> y.enter(0, 8, 5, 6));
        Edge.refused("again, otherwise", Edge.STATE, x, y -> y.enter(0, 999, -1, -1));
        Edge.refused("again, too early", Edge.OUTSIDE, x, y -> y.enter(0, 6, -1, -1));
        Edge.refused("again, too late", Edge.OUTSIDE, x, y -> y.enter(0, 1000, -1, -1));
        Edge.refused("again, giver", Edge.OUTSIDE, x, y -> y.enter(0, 8, 10, -1));
        Edge.refused("again, taker", Edge.OUTSIDE, x, y -> y.enter(0, 8, -1, -2));
        x.leaf(0, true);
        Edge.refused("again, though its leaf is lost", Edge.STATE, x, y -> y.enter(0, 8, 5, 6));
        due("every kind: a gift", x.enter(x.deed(Edge.GIFT, 0, 0, 1, 7), 7, -1, -1), 1);
        due("every kind: a debt", x.enter(x.deed(Edge.DEBT, 0, 0, 1, 7), 7, -1, -1), 1);
        due("every kind: a dark", x.enter(x.deed(Edge.DARK, 0, 0, 1, 7), 7, -1, -1), 1);
        due("every kind: a deed", x.enter(x.deed(Edge.DEED, 0, 0, 1, 7), 7, -1, -1), 1);
        due("five are entered", x.count(5), 5);
    }

    private static void leaves() {
        Edge.says("8: 1 if it was, else 0. UNKNOWN; STATE: it is not entered");
        OughtKnown x = Edge.land(3, 1);
        x.deed(Edge.SALE, 0, 0, 1, 7);
        int[] unknown = {-1, 1, 16, Edge.LEAST, Edge.MOST};
        for (int deed : unknown) {
            Edge.refused("leaf(" + deed + ", true)", Edge.UNKNOWN, x, y -> y.leaf(deed, true));
            Edge.refused("leaf(" + deed + ", false)", Edge.UNKNOWN, x, y -> y.leaf(deed, false));
        }
        Edge.refused("not entered, lost", Edge.STATE, x, y -> y.leaf(0, true));
        Edge.refused("not entered, not lost", Edge.STATE, x, y -> y.leaf(0, false));
        x.enter(0, 7, -1, -1);
        due("a new entry's leaf is there", x.about(0, 8), 0);
        due("not lost again", x.leaf(0, false), 0);
        due("lost", x.leaf(0, true), 0);
        due("it is lost", x.about(0, 8), 1);
        due("lost again", x.leaf(0, true), 1);
        due("found again", x.leaf(0, false), 1);
        due("it is there", x.about(0, 8), 0);
        x.leaf(0, true);
        due("an entry whose leaf is lost counts as entered", x.count(5), 1);
        due("and keeps its day", x.about(0, 5), 7);
    }

    private static void known() {
        Edge.says("9: KNEW of a DEED becomes a set (0 to 65535): what it was. UNKNOWN; OUTSIDE");
        OughtKnown x = Edge.land(3, 1);
        x.deed(Edge.SALE, 0, 0, 1, 7);
        int[] outside = {-1, 65536, Edge.LEAST, Edge.MOST};
        for (int set : outside) {
            Edge.refused("knew(0, " + set + ")", Edge.OUTSIDE, x, y -> y.knew(0, set));
            Edge.refused("knew(1, " + set + ")", Edge.UNKNOWN, x, y -> y.knew(1, set));
        }
        int[] unknown = {-1, 1, 16, Edge.LEAST, Edge.MOST};
        for (int deed : unknown) {
            Edge.refused("knew(" + deed + ", 0)", Edge.UNKNOWN, x, y -> y.knew(deed, 0));
        }
        int[] sets = {65535, 1, 32768, 0, 65534, 0};
        int before = 0;
        for (int set : sets) {
            due("knew(0, " + set + ")", x.knew(0, set), before);
            due("about(0, 9)", x.about(0, 9), set);
            before = set;
        }
        x.knew(0, 7);
        x.deed(Edge.SALE, 0, 0, 2, 8);
        due("one that is made then knows nothing", x.about(1, 9), 0);
        due("what it knew stays", x.about(0, 9), 7);
    }

    private static void livingThere() {
        Edge.says("10: On a FIELD LIVES a PERSON (NONE: nobody) from a DAY on: who did (NONE)");
        OughtKnown x = Edge.land(12, 6);
        int[] fields = {-1, 6, Edge.LEAST, Edge.MOST};
        for (int field : fields) {
            Edge.refused("field " + field + ", all else wrong too", Edge.UNKNOWN, x, y -> y.lives(field, 12, 1000));
            Edge.refused("field " + field + ", nobody", Edge.UNKNOWN, x, y -> y.lives(field, -1, 0));
        }
        int[] persons = {-2, 12, Edge.LEAST, Edge.MOST};
        for (int who : persons) {
            Edge.refused("person " + who, Edge.UNKNOWN, x, y -> y.lives(0, who, 0));
            Edge.refused("person " + who + ", a wrong day", Edge.UNKNOWN, x, y -> y.lives(0, who, -1));
        }
        int[] days = {-1, 1000, Edge.LEAST, Edge.MOST};
        for (int day : days) {
            Edge.refused("day " + day, Edge.OUTSIDE, x, y -> y.lives(0, 0, day));
            Edge.refused("nobody, day " + day, Edge.OUTSIDE, x, y -> y.lives(0, -1, day));
        }
        for (int field = 0; field < 6; field++) {
            due("nobody was there, " + field, x.lives(field, 11, field == 0 ? 0 : 999), -1);
        }
        due("the same one again", x.lives(5, 11, 0), 11);
        due("another", x.lives(5, 0, 999), 11);
        due("nobody", x.lives(5, -1, 999), 0);
        due("nobody again", x.lives(5, -1, 0), -1);
        due("somebody again", x.lives(5, 3, 0), -1);
        due("the others are where they were", x.lives(4, -1, 0), 11);
    }

    private static void noDayWithNobody() {
        Edge.says("30: from which DAY (0 with nobody)");
        OughtKnown x = Edge.land(1, 1);
        long empty = x.digest();
        x.lives(0, -1, 999);
        due("nobody from 999 on", x.digest(), empty);
        x.lives(0, 0, 999);
        due("somebody from 999 on, as far as the digest moves", x.digest() - empty,
            (0 - -1) * 31L * 31 * 31 * 31 * 31 * 31 * 31 + 999L * 31 * 31 * 31 * 31 * 31 * 31);
        x.lives(0, -1, 5);
        due("nobody again", x.digest(), empty);
    }

    public static void main(String[] args) {
        newObject();
        people();
        fields();
        deedsAtMost();
        deedEdges();
        sameNameIsNotTheSame();
        notEntered();
        kinds();
        about();
        entryDays();
        entryNames();
        enteredOnce();
        leaves();
        known();
        livingThere();
        noDayWithNobody();
        Edge.end();
    }
}
