/** The edges that promises 15 to 18 name: THE SEARCH, HELD, PREVAILS, THE FIRST. */
public final class EdgeSearchesTest {
    private static void due(String what, long got, long want) {
        Edge.due(what, got, want);
    }

    private static void searchIs(String when, OughtKnown x, int person, int day, int found, int used, int name) {
        due(when + ": found", x.search(0, person, day, 0), found);
        due(when + ": how many were used", x.search(0, person, day, 1), used);
        due(when + ": the name at which it ends", x.search(0, person, day, 2), name);
    }

    private static void nothingUsed() {
        Edge.says("there is none: it ends (a SEARCH that uses nothing)");
        OughtKnown x = Edge.land(12, 1);
        for (int person = 0; person < 12; person++) {
            searchIs("no deeds, day 0", x, person, 0, 0, 0, person % 10);
            searchIs("no deeds, day 999", x, person, 999, 0, 0, person % 10);
        }
        x.deed(Edge.SALE, 0, 2, 3, 0);
        searchIs("not entered, the giver", x, 2, 999, 0, 0, 2);
        searchIs("not entered, the taker", x, 3, 999, 0, 0, 3);
        x.enter(0, 0, -1, -1);
        searchIs("from 0: the giver finds it", x, 2, 0, 1, 0, 2);
        searchIs("somebody else finds nothing", x, 4, 999, 0, 0, 4);
        searchIs("the taker on day 0", x, 3, 0, 1, 1, 2);
    }

    private static void refusals() {
        Edge.says("15: UNKNOWN: field, person; OUTSIDE: day (0 to 999), what");
        OughtKnown x = Edge.land(3, 2);
        Edge.entered(x, Edge.SALE, 0, 0, 1, 5, 6);
        int[] wrong = {-1, 3, Edge.LEAST, Edge.MOST};
        for (int number : wrong) {
            int field = number == 3 ? 2 : number;
            Edge.refused("field " + field, Edge.UNKNOWN, x, y -> y.search(field, 0, -1, 3));
            Edge.refused("person " + number, Edge.UNKNOWN, x, y -> y.search(0, number, -1, 3));
            Edge.refused("what " + number, Edge.OUTSIDE, x, y -> y.search(0, 0, 0, number));
            int day = number == 3 ? 1000 : number;
            Edge.refused("day " + day, Edge.OUTSIDE, x, y -> y.search(0, 0, day, 0));
        }
    }

    private static void enteredUntilThatDay() {
        Edge.says("15: were entered until that DAY under it as the TAKER's");
        OughtKnown x = Edge.land(4, 1);
        Edge.entered(x, Edge.SALE, 0, 0, 1, 5, 10);
        searchIs("a day ahead", x, 1, 9, 0, 0, 1);
        searchIs("on the day", x, 1, 10, 1, 1, 0);
        searchIs("a day behind", x, 1, 11, 1, 1, 0);
        Edge.entered(x, Edge.SALE, 0, 1, 2, 5, 999);
        searchIs("the last day but one", x, 2, 998, 0, 0, 2);
        searchIs("the last day", x, 2, 999, 3, 2, 0);
        OughtKnown y = Edge.land(4, 1);
        Edge.entered(y, Edge.SALE, 0, 0, 1, 1, 10);
        Edge.entered(y, Edge.SALE, 0, 1, 0, 2, 20);
        // The words name one DAY, that of THE SEARCH: 0 got it on 20, though he had given it on 10.
        searchIs("that day, whichever name", y, 1, 99, 2, 2, 1);
        searchIs("that day, ahead of 20", y, 1, 19, 1, 1, 0);
    }

    private static void enteredLast() {
        Edge.says("15: the one entered last (of like ones the greatest number) is used");
        OughtKnown x = Edge.land(6, 1);
        Edge.entered(x, Edge.SALE, 0, 1, 5, 0, 20);
        Edge.entered(x, Edge.SALE, 0, 2, 5, 0, 19);
        due("the last, though its number is less", x.search(0, 5, 99, 2), 1);
        due("ahead of it the other", x.search(0, 5, 19, 2), 2);
        Edge.entered(x, Edge.SALE, 0, 3, 5, 15, 20);
        Edge.entered(x, Edge.SALE, 0, 4, 5, 10, 20);
        due("of like ones the greatest number, whenever made", x.search(0, 5, 99, 2), 4);
        x.leaf(3, true);
        due("its leaf is lost: the next of them", x.search(0, 5, 99, 2), 3);
        x.leaf(2, true);
        due("both lost: the next", x.search(0, 5, 99, 2), 1);
        x.leaf(0, true);
        due("then the one that is earlier", x.search(0, 5, 99, 2), 2);
        x.leaf(1, true);
        searchIs("then none", x, 5, 99, 0, 0, 5);
    }

    private static void canBeFound() {
        Edge.says("It CAN BE FOUND, if it is entered, no DARK, and its LEAF is not lost");
        for (int kind = 0; kind < 5; kind++) {
            OughtKnown x = Edge.land(3, 1);
            x.deed(kind, 0, 0, 1, 5);
            due("kind " + kind + ", not entered", x.search(0, 0, 999, 0), 0);
            x.enter(0, 5, -1, -1);
            int found = kind == Edge.DARK ? 0 : 1;
            due("kind " + kind + ", entered", x.search(0, 0, 999, 0), found);
            int used = kind == Edge.DARK || kind == Edge.DEBT ? 0 : 1;
            due("kind " + kind + ", used by its taker", x.search(0, 1, 999, 1), used);
            x.leaf(0, true);
            due("kind " + kind + ", its leaf is lost", x.search(0, 0, 999, 0), 0);
            due("kind " + kind + ", lost and not used", x.search(0, 1, 999, 1), 0);
            x.leaf(0, false);
            due("kind " + kind + ", its leaf is back", x.search(0, 0, 999, 0), found);
            due("kind " + kind + ", back and used", x.search(0, 1, 999, 1), used);
        }
    }

    private static void asWritten() {
        Edge.says("15: then the NAME of its GIVER as written is next");
        OughtKnown x = Edge.land(12, 1);
        Edge.written(x, Edge.SALE, 0, 1, 10, 7, 8);
        searchIs("the giver by right", x, 0, 99, 0, 0, 0);
        searchIs("the taker by right", x, 1, 99, 0, 0, 1);
        searchIs("the taker as written", x, 8, 99, 1, 1, 7);
        searchIs("the giver as written", x, 7, 99, 1, 0, 7);
        Edge.written(x, Edge.SALE, 3, 4, 12, 0, 1);
        searchIs("one of two with the name", x, 1, 99, 2, 1, 0);
        searchIs("the other of them", x, 11, 99, 2, 1, 0);
        searchIs("the giver's namesake", x, 10, 99, 2, 0, 0);
    }

    private static void notYetUsed() {
        Edge.says("15: and were not yet used in this search");
        OughtKnown x = Edge.land(3, 1);
        Edge.written(x, Edge.SALE, 0, 1, 10, 2, 2);
        searchIs("from a name to itself", x, 2, 99, 1, 1, 2);
        Edge.written(x, Edge.SALE, 0, 1, 10, 2, 2);
        Edge.written(x, Edge.SALE, 0, 1, 10, 2, 2);
        searchIs("three times from a name to itself", x, 2, 99, 7, 3, 2);
        OughtKnown y = Edge.land(10, 1);
        for (int i = 0; i < 16; i++) {
            Edge.entered(y, Edge.SALE, 0, i % 10, (i + 1) % 10, 0, i);
        }
        searchIs("all sixteen", y, 6, 999, 65535, 16, 0);
        OughtKnown z = Edge.land(2, 1);
        for (int i = 0; i < 16; i++) {
            Edge.entered(z, Edge.SALE, 0, i % 2, 1 - i % 2, 0, 50);
        }
        searchIs("to and fro, all on one day", z, 0, 50, 65535, 16, 0);
        searchIs("the same again: a new search has used none", z, 0, 50, 65535, 16, 0);
    }

    /** A chain 0 to 1 on 10, to 2 on 20, to 3 on 30, and debts of one of them, entered on some days. */
    private static void foundOf(int giver, int[] days, boolean[] found) {
        OughtKnown x = Edge.land(5, 1);
        for (int i = 0; i < 3; i++) {
            Edge.entered(x, Edge.SALE, 0, i, i + 1, 0, 10 + 10 * i);
        }
        int want = 7;
        for (int i = 0; i < days.length; i++) {
            Edge.entered(x, Edge.DEBT, 0, giver, 4, 0, days[i]);
            want |= found[i] ? 1 << 3 + i : 0;
        }
        searchIs("debts of " + giver, x, 3, 40, want, 3, 0);
    }

    private static void fromUntil() {
        Edge.says("15: FOUND .. from the DAY on which the DEED by which that NAME got it was entered until ..");
        boolean[] within = {false, true, true, false};
        foundOf(3, new int[] {29, 30, 40, 41}, within);
        foundOf(2, new int[] {19, 20, 30, 31}, within);
        foundOf(1, new int[] {9, 10, 20, 21}, within);
        Edge.says("15: (the last NAME: from 0)");
        foundOf(0, new int[] {0, 1, 10, 11}, new boolean[] {true, true, true, false});
        Edge.says("15: (the first NAME: until the DAY of THE SEARCH)");
        OughtKnown x = Edge.land(3, 1);
        Edge.entered(x, Edge.DEBT, 0, 0, 1, 0, 999);
        due("the last day but one", x.search(0, 0, 998, 0), 0);
        due("the last day", x.search(0, 0, 999, 0), 1);
        Edge.entered(x, Edge.DEBT, 0, 0, 1, 0, 0);
        due("day 0", x.search(0, 0, 0, 0), 2);
    }

    private static void onlyThatField() {
        Edge.says("15: all DEEDS of the FIELD");
        OughtKnown x = Edge.land(4, 2);
        Edge.entered(x, Edge.SALE, 1, 0, 1, 0, 10);
        searchIs("of another field: neither used nor found", x, 1, 99, 0, 0, 1);
        due("found there", x.search(1, 1, 99, 0), 1);
        due("used there", x.search(1, 1, 99, 1), 1);
        Edge.entered(x, Edge.SALE, 0, 2, 1, 0, 9);
        searchIs("each its own", x, 1, 99, 2, 1, 2);
    }

    private static void heldAhead() {
        Edge.says("of the DEEDS of the same FIELD made ahead of a DEED (an earlier DAY, or the same and a lesser number)");
        OughtKnown x = Edge.land(3, 2);
        int[] days = {10, 9, 10, 11, 10};
        for (int day : days) {
            x.deed(Edge.SALE, 0, 0, 1, day);
        }
        x.deed(Edge.SALE, 1, 0, 1, 1);
        int law = Edge.law(x, "dx");
        int[] want = {Edge.bits(1), 0, Edge.bits(0, 1), Edge.bits(0, 1, 2, 4), Edge.bits(0, 1, 2), 0};
        for (int i = 0; i < 6; i++) {
            due("who knew nothing, " + i, x.held(law, i), 0);
            x.knew(i, 65535);
            due("who knew all, those that are not there too, " + i, x.held(law, i), want[i]);
        }
        x.knew(3, Edge.bits(1, 4, 5, 15));
        due("who knew some", x.held(law, 3), Edge.bits(1, 4));
        Edge.says("16: UNKNOWN: law, deed");
        int[] laws = {-1, 1, Edge.LEAST, Edge.MOST};
        for (int number : laws) {
            Edge.refused("law " + number, Edge.UNKNOWN, x, y -> y.held(number, 0));
            int deed = number == 1 ? 6 : number;
            Edge.refused("deed " + deed, Edge.UNKNOWN, x, y -> y.held(0, deed));
        }
    }

    private static void heldByEntries() {
        Edge.says("with \"a\" all that CAN BE FOUND and were entered until its DAY");
        OughtKnown y = Edge.land(6, 1);
        Edge.entered(y, Edge.SALE, 0, 4, 5, 1, 21);
        int on = y.deed(Edge.SALE, 0, 0, 1, 20), next = y.deed(Edge.SALE, 0, 0, 1, 21);
        int ay = Edge.law(y, "da");
        due("the first of all, entered a day behind", y.held(ay, on), 0);
        due("the first of all, entered on the day", y.held(ay, next), Edge.bits(0));
        OughtKnown x = Edge.land(6, 1);
        int before = Edge.entered(x, Edge.SALE, 0, 4, 5, 1, 19);
        int same = Edge.entered(x, Edge.DEBT, 0, 4, 5, 1, 20);
        int later = Edge.entered(x, Edge.SALE, 0, 4, 5, 1, 21);
        int dark = Edge.entered(x, Edge.DARK, 0, 4, 5, 1, 5);
        int lost = Edge.entered(x, Edge.GIFT, 0, 4, 5, 1, 5);
        int never = x.deed(Edge.SALE, 0, 4, 5, 1);
        int plain = Edge.entered(x, Edge.DEED, 0, 4, 5, 20, 20);
        int mark = x.deed(Edge.SALE, 0, 0, 1, 20);
        int behind = Edge.entered(x, Edge.SALE, 0, 4, 5, 20, 20);
        x.leaf(lost, true);
        int a = Edge.law(x, "da"), none = Edge.law(x, "dx");
        due("until its day, whose ever", x.held(a, mark), Edge.bits(before, same, plain));
        due("not by x", x.held(none, mark), 0);
        x.leaf(lost, false);
        due("the leaf is back", x.held(a, mark), Edge.bits(before, same, plain, lost));
        x.knew(mark, Edge.bits(dark, never, later, behind));
        due("and those that he knew, dark, not entered, entered later; not one made behind", x.held(a, mark),
            Edge.bits(before, same, plain, lost, dark, never, later));
    }

    private static void heldBySearch() {
        Edge.says("with \"c\" those FOUND by THE SEARCH for its GIVER on its DAY");
        OughtKnown x = Edge.land(6, 1);
        int in = Edge.entered(x, Edge.SALE, 0, 0, 1, 1, 10);
        int debt = Edge.entered(x, Edge.DEBT, 0, 1, 4, 1, 20);
        int later = Edge.entered(x, Edge.DEBT, 0, 1, 4, 1, 21);
        int apart = Edge.entered(x, Edge.SALE, 0, 4, 5, 1, 10);
        int mark = x.deed(Edge.SALE, 0, 1, 2, 20);
        int behind = Edge.entered(x, Edge.DEBT, 0, 1, 4, 20, 20);
        int takers = x.deed(Edge.SALE, 0, 2, 1, 20);
        int c = Edge.law(x, "dc"), a = Edge.law(x, "da"), none = Edge.law(x, "dx");
        due("by x nothing", x.held(none, mark), 0);
        due("found on its day, those made ahead", x.held(c, mark), Edge.bits(in, debt));
        due("the search itself finds one made behind, too", x.search(0, 1, 20, 0), Edge.bits(in, debt, behind));
        due("by a also one outside the chain", x.held(a, mark), Edge.bits(in, debt, apart));
        due("the giver's search, not the taker's", x.held(c, takers), 0);
        due("a day ahead of the entry", x.held(c, x.deed(Edge.SALE, 0, 1, 2, 19)), Edge.bits(in));
        due("a day behind", x.held(c, x.deed(Edge.SALE, 0, 1, 2, 21)), Edge.bits(in, debt, later, behind));
    }

    private static void heldByLiving() {
        Edge.says("with \"l\" also those whose TAKER lives on the FIELD then");
        OughtKnown x = Edge.land(12, 2);
        int sale = x.deed(Edge.SALE, 0, 0, 1, 5);
        int dark = x.deed(Edge.DARK, 0, 0, 1, 5);
        int debt = x.deed(Edge.DEBT, 0, 0, 1, 5);
        int from = x.deed(Edge.SALE, 0, 1, 0, 5);
        int namesake = x.deed(Edge.SALE, 0, 0, 11, 5);
        int mark = x.deed(Edge.SALE, 0, 0, 2, 20);
        x.deed(Edge.SALE, 0, 0, 1, 20);
        int l = Edge.law(x, "dxl"), none = Edge.law(x, "dx"), al = Edge.law(x, "dal"), cl = Edge.law(x, "dcl");
        due("nobody lives there", x.held(l, mark), 0);
        x.lives(0, 1, 20);
        due("from its day on", x.held(l, mark), Edge.bits(sale, dark, debt));
        due("without l not", x.held(none, mark), 0);
        x.lives(0, 1, 21);
        due("from a day behind on", x.held(l, mark), 0);
        x.lives(0, 1, 0);
        due("from 0 on", x.held(l, mark), Edge.bits(sale, dark, debt));
        x.lives(0, 11, 20);
        due("a namesake is another one", x.held(l, mark), Edge.bits(namesake));
        x.lives(0, 0, 20);
        due("another", x.held(l, mark), Edge.bits(from));
        x.lives(0, 3, 0);
        due("one to whom nothing was given", x.held(l, mark), 0);
        x.lives(0, -1, 0);
        due("nobody again", x.held(l, mark), 0);
        x.lives(1, 1, 0);
        due("who lives on another field", x.held(l, mark), 0);
        x.lives(0, 1, 0);
        x.enter(from, 5, -1, -1);
        due("with a both", x.held(al, mark), Edge.bits(sale, dark, debt, from));
        due("with c both: the giver got it so", x.held(cl, mark), Edge.bits(sale, dark, debt, from));
        x.leaf(from, true);
        due("with c, the leaf is lost: who lives there alone", x.held(cl, mark), Edge.bits(sale, dark, debt));
        x.enter(namesake, 5, -1, -1);
        due("with c both: the giver gave it so", x.held(cl, mark), Edge.bits(sale, dark, debt, namesake));
        x.enter(sale, 5, -1, -1);
        due("with c one that is found, too", x.held(cl, mark), Edge.bits(sale, dark, debt, namesake));
        due("with a one that is entered, too", x.held(al, mark), Edge.bits(sale, dark, debt, namesake));
    }

    /** The DEEDS 0 and 1 on these days, entered on those (NONE: not): which of them PREVAILS. */
    private static void prevailing(String text, int day0, int entry0, int day1, int entry1, int want) {
        OughtKnown x = Edge.land(4, 1);
        x.deed(Edge.SALE, 0, 0, 1, day0);
        x.deed(Edge.SALE, 0, 0, 2, day1);
        if (entry0 != -1) {
            x.enter(0, entry0, -1, -1);
        }
        if (entry1 != -1) {
            x.enter(1, entry1, -1, -1);
        }
        int law = Edge.law(x, text);
        String when = text + ": " + day0 + " entered " + entry0 + ", " + day1 + " entered " + entry1;
        due(when, x.prevails(law, 0, 1), want);
        due(when + ", asked the other way round", x.prevails(law, 1, 0), want);
    }

    private static void byEntry() {
        Edge.says("by \"e\" if B is entered ahead of A (an earlier DAY, or the same and a lesser number)");
        prevailing("ex", 10, 30, 20, 29, 1);
        prevailing("ex", 10, 30, 20, 30, 0);
        prevailing("ex", 10, 30, 20, 31, 0);
        prevailing("ex", 20, 30, 10, 29, 1);
        prevailing("ex", 20, 30, 10, 30, 0);
        prevailing("ex", 20, 30, 10, 31, 0);
        prevailing("ex", 10, 11, 10, 10, 1);
        prevailing("ex", 10, 10, 10, 10, 0);
        prevailing("ex", 0, 999, 999, 999, 0);
        Edge.says("one that is not entered .. is entered behind all");
        prevailing("ex", 10, -1, 20, 999, 1);
        prevailing("ex", 10, 999, 20, -1, 0);
        prevailing("ex", 20, 999, 10, -1, 0);
        Edge.says("or later than the law's days behind its own DAY");
        prevailing("exh5", 10, 15, 20, 20, 0);
        prevailing("exh5", 10, 16, 20, 25, 1);
        prevailing("exh5", 10, 15, 20, 26, 0);
        prevailing("exh5", 10, -1, 20, 25, 1);
        prevailing("exh0", 10, 10, 20, 20, 0);
        prevailing("exh0", 10, 11, 20, 20, 1);
        prevailing("exh998", 0, 998, 998, 999, 0);
        prevailing("exh998", 0, 999, 998, 999, 1);
        prevailing("exh999", 0, 999, 998, 999, 0);
        Edge.says("(Of two that are both entered behind all neither is ahead.)");
        prevailing("ex", 10, -1, 20, -1, 0);
        prevailing("ex", 20, -1, 10, -1, 1);
        prevailing("ex", 10, -1, 10, -1, 0);
        prevailing("exh5", 10, 16, 20, 26, 0);
        prevailing("exh5", 20, 26, 10, 16, 1);
        prevailing("exh5", 20, 26, 10, -1, 1);
        prevailing("exh5", 20, -1, 10, 16, 1);
        prevailing("exh5", 10, 30, 20, 29, 0);
        Edge.says("by \"d\" never");
        prevailing("da", 10, 30, 20, 20, 0);
        prevailing("dx", 20, 20, 10, -1, 1);
        prevailing("dcg", 10, -1, 10, 10, 0);
        Edge.says("by \"e\": ENTERED, found or not");
        OughtKnown x = Edge.land(4, 1);
        x.deed(Edge.SALE, 0, 0, 1, 5);
        Edge.entered(x, Edge.DARK, 0, 0, 2, 6, 6);
        Edge.entered(x, Edge.GIFT, 0, 0, 3, 7, 7);
        x.leaf(2, true);
        int law = Edge.law(x, "eal");
        due("a dark one is entered", x.prevails(law, 0, 1), 1);
        due("one whose leaf is lost is entered", x.prevails(law, 0, 2), 2);
        due("it does not ask what one knew", x.knew(1, 1) + x.prevails(law, 0, 1), 1);
    }

    private static void byKnowing() {
        Edge.says("by \"n\" if B is PAID (with \"g\" all are) and its TAKER not HELD to know A");
        for (int kind = 0; kind < 5; kind++) {
            OughtKnown x = Edge.land(4, 1);
            x.deed(kind, 0, 0, 1, 10);
            x.deed(kind, 0, 2, 3, 10);
            int n = Edge.law(x, "nx"), g = Edge.law(x, "nxg"), b = Edge.law(x, "bx"), bg = Edge.law(x, "bxgh0");
            int paid = kind == Edge.SALE || kind == Edge.DEBT || kind == Edge.DARK ? 1 : 0;
            due("n, kind " + kind, x.prevails(n, 0, 1), paid);
            due("n with g, kind " + kind, x.prevails(g, 0, 1), 1);
            due("b, not entered, kind " + kind, x.prevails(b, 0, 1), 0);
            x.enter(1, 11, -1, -1);
            due("b, entered, kind " + kind, x.prevails(b, 0, 1), paid);
            due("b with g and h0, entered late, kind " + kind, x.prevails(bg, 0, 1), 0);
            x.knew(1, 1);
            due("n, he knew, kind " + kind, x.prevails(n, 0, 1), 0);
            due("n with g, he knew, kind " + kind, x.prevails(g, 0, 1), 0);
            due("b, he knew, kind " + kind, x.prevails(b, 0, 1), 0);
            x.knew(1, 65534);
            x.knew(0, 65535);
            due("n, of all others, and what A knew is nothing", x.prevails(g, 0, 1), 1);
        }
        Edge.says("by \"b\" if both");
        for (int both = 0; both < 4; both++) {
            OughtKnown x = Edge.land(4, 1);
            Edge.entered(x, Edge.SALE, 0, 0, 1, 10, 20);
            Edge.entered(x, Edge.SALE, 0, 0, 2, 11, (both & 1) != 0 ? 19 : 20);
            x.knew(1, (both & 2) != 0 ? 0 : 1);
            due("entered ahead and not held: " + both, x.prevails(Edge.law(x, "bx"), 0, 1), both == 3 ? 1 : 0);
        }
    }

    private static void prevailsRefuses() {
        Edge.says("17: UNKNOWN: law, a, b, or they are the same, or of unlike FIELDS");
        OughtKnown x = Edge.land(4, 2);
        x.deed(Edge.SALE, 0, 0, 1, 10);
        x.deed(Edge.SALE, 0, 2, 3, 11);
        x.deed(Edge.SALE, 1, 0, 1, 10);
        int law = Edge.law(x, "dx");
        int[] wrong = {-1, 3, 16, Edge.LEAST, Edge.MOST};
        for (int number : wrong) {
            Edge.refused("law " + number, Edge.UNKNOWN, x, y -> y.prevails(number, 0, 1));
            Edge.refused("a " + number, Edge.UNKNOWN, x, y -> y.prevails(law, number, 1));
            Edge.refused("b " + number, Edge.UNKNOWN, x, y -> y.prevails(law, 1, number));
            Edge.refused("both " + number, Edge.UNKNOWN, x, y -> y.prevails(law, number, number));
        }
        Edge.refused("the same", Edge.UNKNOWN, x, y -> y.prevails(law, 0, 0));
        Edge.refused("unlike fields", Edge.UNKNOWN, x, y -> y.prevails(law, 0, 2));
        Edge.refused("unlike fields, the other way round", Edge.UNKNOWN, x, y -> y.prevails(law, 2, 1));
        due("of one field, from unlike givers", x.prevails(law, 1, 0), 0);
    }

    private static void firstOfSets() {
        Edge.says("18: NONE: it is empty. UNKNOWN: law; OUTSIDE: set (0 to 65535); UNKNOWN: a DEED of it; STATE: unlike FIELDS");
        OughtKnown x = Edge.land(4, 2);
        Edge.refused("no law, an empty set", Edge.UNKNOWN, x, y -> y.first(0, 0));
        int d = Edge.law(x, "dx");
        due("no deeds, an empty set", x.first(d, 0), -1);
        Edge.refused("no deeds, one", Edge.UNKNOWN, x, y -> y.first(d, 1));
        Edge.refused("no deeds, all", Edge.UNKNOWN, x, y -> y.first(d, 65535));
        int[] outside = {-1, 65536, 65537, Edge.LEAST, Edge.MOST};
        for (int set : outside) {
            Edge.refused("set " + set, Edge.OUTSIDE, x, y -> y.first(d, set));
            Edge.refused("law 1, set " + set, Edge.UNKNOWN, x, y -> y.first(1, set));
            Edge.refused("law -1, set " + set, Edge.UNKNOWN, x, y -> y.first(-1, set));
        }
        x.deed(Edge.SALE, 0, 0, 1, 10);
        x.deed(Edge.SALE, 1, 0, 1, 9);
        x.deed(Edge.SALE, 0, 2, 3, 8);
        due("empty", x.first(d, 0), -1);
        for (int i = 0; i < 3; i++) {
            due("one alone, " + i, x.first(d, 1 << i), i);
        }
        for (int i = 3; i < 16; i++) {
            int set = 1 << i;
            Edge.refused("one that is not there, " + i, Edge.UNKNOWN, x, y -> y.first(d, set));
            Edge.refused("with one that is there", Edge.UNKNOWN, x, y -> y.first(d, set | 1));
            Edge.refused("with unlike ones", Edge.UNKNOWN, x, y -> y.first(d, set | 3));
        }
        Edge.refused("unlike fields", Edge.STATE, x, y -> y.first(d, 3));
        Edge.refused("unlike fields, the others", Edge.STATE, x, y -> y.first(d, 6));
        Edge.refused("unlike fields, all", Edge.STATE, x, y -> y.first(d, 7));
        due("of one field, unlike givers", x.first(d, 5), 2);
    }

    private static void firstOfAll() {
        Edge.says("18: THE FIRST of a set of DEEDS of one FIELD: sixteen");
        OughtKnown x = Edge.land(3, 2);
        for (int i = 0; i < 16; i++) {
            x.deed(Edge.SALE, 0, 0, 1 + i % 2, 50 - i);
        }
        int d = Edge.law(x, "dx"), n = Edge.law(x, "nx"), e = Edge.law(x, "ex");
        due("d: the one made first is the last", x.first(d, 65535), 15);
        due("n: the one made last is the first", x.first(n, 65535), 0);
        due("e: none is entered", x.first(e, 65535), 15);
        x.enter(7, 999, -1, -1);
        due("e: one is entered", x.first(e, 65535), 7);
        due("e: without it", x.first(e, 65535 & ~Edge.bits(7)), 15);
        OughtKnown y = Edge.land(3, 2);
        for (int i = 0; i < 16; i++) {
            y.deed(Edge.SALE, i % 2, 0, 1 + i % 2, 50 - i);
        }
        int dy = Edge.law(y, "dx");
        for (int i = 0; i < 16; i++) {
            due("one of sixteen alone, " + i, y.first(dy, 1 << i), i);
        }
        due("all of the first field", y.first(dy, 0x5555), 14);
        due("all of the second field", y.first(dy, 0xAAAA), 15);
        Edge.refused("all", Edge.STATE, y, z -> z.first(dy, 65535));
        Edge.refused("the last two", Edge.STATE, y, z -> z.first(dy, 0xC000));
    }

    private static void ringed() {
        Edge.says("if there is none (a RING), the one made first");
        OughtKnown x = Edge.land(6, 1);
        int[] days = {12, 11, 10, 13};
        for (int i = 0; i < 4; i++) {
            x.deed(Edge.SALE, 0, 0, i + 1, days[i]);
        }
        x.knew(1, Edge.bits(2));
        x.knew(0, Edge.bits(1));
        x.knew(3, Edge.bits(0, 1, 2));
        int n = Edge.law(x, "nx");
        due("2 over 1", x.prevails(n, 1, 2), 2);
        due("1 over 0", x.prevails(n, 1, 0), 1);
        due("0 over 2", x.prevails(n, 2, 0), 0);
        due("a ring: the one made first has the greatest number", x.first(n, 7), 2);
        due("a ring, and one over which all prevail", x.first(n, 15), 2);
        x.knew(3, 0);
        due("a ring, and one that prevails over all", x.first(n, 15), 3);
        x.knew(3, Edge.bits(0, 1));
        due("it prevails over one of them alone: still none", x.first(n, 15), 2);
        due("two of the ring", x.first(n, 3), 1);
        due("two others", x.first(n, 6), 2);
        due("the last two", x.first(n, 5), 0);
        OughtKnown y = Edge.land(6, 1);
        for (int i = 0; i < 3; i++) {
            y.deed(Edge.SALE, 0, 0, i + 1, 10);
        }
        y.knew(1, 1);
        y.knew(2, 2);
        due("a ring of one day: the least number", y.first(Edge.law(y, "nx"), 7), 0);
    }

    public static void main(String[] args) {
        nothingUsed();
        refusals();
        enteredUntilThatDay();
        enteredLast();
        canBeFound();
        asWritten();
        notYetUsed();
        fromUntil();
        onlyThatField();
        heldAhead();
        heldByEntries();
        heldBySearch();
        heldByLiving();
        byEntry();
        byKnowing();
        prevailsRefuses();
        firstOfSets();
        firstOfAll();
        ringed();
        Edge.end();
    }
}
