/** Each promise by itself: ordinary calls, the edges that the document names, wrong inputs. The answers were worked out by hand. */
public final class PromisesTest {
    private static final int NONE = -1, UNKNOWN = -101, OUTSIDE = -102, STATE = -103, FULL = -104;
    private static final int DEED = 0, SALE = 1, GIFT = 2, DEBT = 3, DARK = 4;
    private static final int LEAST = Integer.MIN_VALUE, MOST = Integer.MAX_VALUE;
    private static int wrong = 0;
    private static int asked = 0;

    private static void due(String what, long got, long want) {
        asked++;
        if (got != want) {
            wrong++;
            System.out.println(what + ": answered " + got + ", due is " + want);
        }
    }

    private static long word(String text) {
        long w = 0;
        for (int i = text.length() - 1; i >= 0; i--) {
            w = w << 8 | text.charAt(i);
        }
        return w;
    }

    private static int law(OughtKnown x, String text) {
        x.blank();
        x.letters(word(text));
        return x.law();
    }

    /** PEOPLE whose NAMES are their numbers, and one FIELD of the PERSON 0. */
    private static OughtKnown land(int people) {
        OughtKnown x = new OughtKnown();
        for (int i = 0; i < people; i++) {
            x.person(i % 10);
        }
        x.field(0);
        return x;
    }

    private static int sale(OughtKnown x, int from, int to, int day) {
        return x.deed(SALE, 0, from, to, day);
    }

    private static int entered(OughtKnown x, int kind, int from, int to, int day, int entry) {
        int deed = x.deed(kind, 0, from, to, day);
        x.enter(deed, entry, NONE, NONE);
        return deed;
    }

    private static void promise1() {
        OughtKnown x = new OughtKnown();
        for (int what = 0; what < 6; what++) {
            due("1: a new object counts nothing of " + what, x.count(what), 0);
        }
        long h = 367;
        for (int i = 0; i < 6; i++) {
            h = 31 * h;
        }
        due("1: digest of a new object", x.digest(), h);
        due("1: no field", x.wild(0), UNKNOWN);
        due("1: no law", x.safe(0), UNKNOWN);
        due("1: no deed", x.about(0, 0), UNKNOWN);
        due("1: no image", x.restore(), STATE);
        due("1: an empty page", x.fault(), 0);
        x.person(1);
        due("1: objects share nothing", new OughtKnown().count(0), 0);
    }

    private static void promise2() {
        OughtKnown x = new OughtKnown();
        due("2: a name below", x.person(-1), OUTSIDE);
        due("2: a name above", x.person(10), OUTSIDE);
        due("2: the least", x.person(LEAST), OUTSIDE);
        due("2: the most", x.person(MOST), OUTSIDE);
        for (int i = 0; i < 12; i++) {
            due("2: person " + i, x.person(i < 2 ? 9 * i : 3), i);
        }
        due("2: OUTSIDE ahead of FULL", x.person(10), OUTSIDE);
        due("2: full", x.person(0), FULL);
        due("2: refusals change nothing", x.count(0), 12);
    }

    private static void promise3() {
        OughtKnown x = new OughtKnown();
        due("3: nobody is there", x.field(0), UNKNOWN);
        x.person(4);
        due("3: below", x.field(-1), UNKNOWN);
        due("3: above", x.field(1), UNKNOWN);
        for (int i = 0; i < 6; i++) {
            due("3: field " + i, x.field(0), i);
        }
        due("3: UNKNOWN ahead of FULL", x.field(1), UNKNOWN);
        due("3: full", x.field(0), FULL);
        due("3: refusals change nothing", x.count(1), 6);
        due("3: nobody lives there", x.lives(5, 0, 0), NONE);
    }

    private static void promise4() {
        OughtKnown x = land(3);
        due("4: kind below ahead of all", x.deed(-1, 9, 9, 9, -1), OUTSIDE);
        due("4: kind above", x.deed(5, 0, 0, 1, 0), OUTSIDE);
        due("4: field ahead of day", x.deed(DEED, 1, 0, 1, 1000), UNKNOWN);
        due("4: field below", x.deed(DEED, -1, 0, 1, 0), UNKNOWN);
        due("4: from", x.deed(DEED, 0, 3, 1, 0), UNKNOWN);
        due("4: from below", x.deed(DEED, 0, -1, 1, 0), UNKNOWN);
        due("4: to", x.deed(DEED, 0, 0, 3, 0), UNKNOWN);
        due("4: to below", x.deed(DEED, 0, 0, -1, 0), UNKNOWN);
        due("4: the same", x.deed(DEED, 0, 1, 1, -1), UNKNOWN);
        due("4: day below", x.deed(DEED, 0, 0, 1, -1), OUTSIDE);
        due("4: day above", x.deed(DEED, 0, 0, 1, 1000), OUTSIDE);
        for (int i = 0; i < 16; i++) {
            due("4: deed " + i, x.deed(i % 5, 0, i % 2, 2, i == 0 ? 999 : 0), i);
        }
        due("4: OUTSIDE ahead of FULL", x.deed(DEED, 0, 0, 1, 1000), OUTSIDE);
        due("4: full", x.deed(DEED, 0, 0, 1, 0), FULL);
        due("4: refusals change nothing", x.count(2), 16);
        due("4: none is entered", x.count(5), 0);
    }

    private static void promise5() {
        OughtKnown x = land(2);
        for (int kind = 0; kind < 5; kind++) {
            x.deed(kind, 0, 0, 1, 5);
        }
        int[][] holds = {{1, 0, 0, 0, 0}, {1, 1, 0, 0, 0}, {1, 0, 1, 0, 0}, {1, 0, 0, 1, 0}, {1, 1, 0, 0, 1}};
        for (int deed = 0; deed < 5; deed++) {
            for (int kind = 0; kind < 5; kind++) {
                due("5: as(" + deed + ", " + kind + ")", x.as(deed, kind), holds[deed][kind] == 1 ? deed : NONE);
            }
        }
        due("5: UNKNOWN ahead of OUTSIDE", x.as(5, 9), UNKNOWN);
        due("5: deed below", x.as(-1, 0), UNKNOWN);
        due("5: kind below", x.as(0, -1), OUTSIDE);
        due("5: kind above", x.as(0, 5), OUTSIDE);
    }

    private static void aboutIs(OughtKnown x, String when, int deed, int... want) {
        for (int what = 0; what < want.length; what++) {
            due("6: " + when + " about(" + deed + ", " + what + ")", x.about(deed, what), want[what]);
        }
    }

    private static void promise6() {
        OughtKnown x = land(4);
        x.field(2);
        x.deed(GIFT, 1, 3, 2, 17);
        aboutIs(x, "new", 0, GIFT, 1, 3, 2, 17, NONE, NONE, NONE, 0, 0);
        x.enter(0, 20, 8, NONE);
        x.leaf(0, true);
        x.knew(0, 65535);
        aboutIs(x, "entered", 0, GIFT, 1, 3, 2, 17, 20, 8, 2, 1, 65535);
        due("6: UNKNOWN ahead of OUTSIDE", x.about(1, 10), UNKNOWN);
        due("6: deed below", x.about(-1, 0), UNKNOWN);
        due("6: what below", x.about(0, -1), OUTSIDE);
        due("6: what above", x.about(0, 10), OUTSIDE);
    }

    private static void promise7() {
        OughtKnown x = land(3);
        sale(x, 0, 1, 10);
        due("7: UNKNOWN ahead of all", x.enter(1, 1000, 10, 10), UNKNOWN);
        due("7: deed below", x.enter(-1, 10, 0, 0), UNKNOWN);
        due("7: ahead of its own day", x.enter(0, 9, NONE, NONE), OUTSIDE);
        due("7: behind the last day", x.enter(0, 1000, NONE, NONE), OUTSIDE);
        due("7: giver above", x.enter(0, 10, 10, NONE), OUTSIDE);
        due("7: giver below", x.enter(0, 10, -2, NONE), OUTSIDE);
        due("7: taker above", x.enter(0, 10, NONE, 10), OUTSIDE);
        due("7: taker below", x.enter(0, 10, NONE, -2), OUTSIDE);
        due("7: nothing was entered", x.about(0, 5), NONE);
        due("7: on its own day, by right", x.enter(0, 10, NONE, NONE), 1);
        due("7: giver by right", x.about(0, 6), 0);
        due("7: taker by right", x.about(0, 7), 1);
        due("7: twice", x.enter(0, 11, 5, 5), STATE);
        due("7: OUTSIDE ahead of STATE", x.enter(0, 11, 5, 10), OUTSIDE);
        due("7: the first one stays", x.about(0, 5), 10);
        sale(x, 0, 2, 0);
        due("7: on the last day, others' names", x.enter(1, 999, 9, 0), 1);
        due("7: giver as written", x.about(1, 6), 9);
        due("7: taker as written", x.about(1, 7), 0);
        due("7: a dark one is entered too", x.enter(x.deed(DARK, 0, 0, 1, 3), 3, NONE, NONE), 1);
    }

    private static void promise8() {
        OughtKnown x = land(2);
        sale(x, 0, 1, 10);
        due("8: deed above", x.leaf(1, true), UNKNOWN);
        due("8: deed below", x.leaf(-1, true), UNKNOWN);
        due("8: not entered", x.leaf(0, true), STATE);
        x.enter(0, 12, NONE, NONE);
        due("8: a refusal changes nothing", x.about(0, 8), 0);
        due("8: lost", x.leaf(0, true), 0);
        due("8: it is not found", x.search(0, 0, 999, 0), 0);
        due("8: lost again", x.leaf(0, true), 1);
        due("8: come back", x.leaf(0, false), 1);
        due("8: it is found", x.search(0, 0, 999, 0), 1);
        due("8: it was not lost", x.leaf(0, false), 0);
    }

    private static void promise9() {
        OughtKnown x = land(2);
        sale(x, 0, 1, 10);
        due("9: UNKNOWN ahead of OUTSIDE", x.knew(1, -1), UNKNOWN);
        due("9: below", x.knew(0, -1), OUTSIDE);
        due("9: above", x.knew(0, 65536), OUTSIDE);
        due("9: all, those that are not there too", x.knew(0, 65535), 0);
        due("9: none", x.knew(0, 0), 65535);
        due("9: none again", x.knew(0, 0), 0);
    }

    private static void promise10() {
        OughtKnown x = land(2);
        due("10: field ahead of day", x.lives(1, 0, -1), UNKNOWN);
        due("10: field below", x.lives(-1, 0, 0), UNKNOWN);
        due("10: person above", x.lives(0, 2, 1000), UNKNOWN);
        due("10: person below NONE", x.lives(0, -2, 0), UNKNOWN);
        due("10: day below", x.lives(0, 0, -1), OUTSIDE);
        due("10: day above", x.lives(0, NONE, 1000), OUTSIDE);
        due("10: the first", x.lives(0, 1, 0), NONE);
        due("10: the next", x.lives(0, 0, 999), 1);
        due("10: nobody", x.lives(0, NONE, 5), 0);
        long empty = x.digest();
        due("10: nobody again", x.lives(0, NONE, 7), NONE);
        due("10: no day with nobody", x.digest(), empty);
        x.lives(0, 1, 7);
        long seven = x.digest();
        x.lives(0, 1, 8);
        due("10: the day is kept", x.digest() == seven ? 1 : 0, 0);
    }

    private static void promise11() {
        OughtKnown x = new OughtKnown();
        due("11: nothing", x.letters(0), 0);
        due("11: one", x.letters(1), 1);
        due("11: the last code", x.letters(126), 2);
        due("11: above it", x.letters(127), OUTSIDE);
        due("11: a high byte", x.letters(0x80L), OUTSIDE);
        due("11: the highest byte", x.letters(0xFF61616161616161L), OUTSIDE);
        due("11: behind a 0", x.letters(0x610061L), OUTSIDE);
        due("11: behind a 0 at the front", x.letters(0x6100L), OUTSIDE);
        due("11: far behind a 0", x.letters(0x6100000000000061L), OUTSIDE);
        due("11: all ones", x.letters(-1L), OUTSIDE);
        due("11: refusals change nothing", x.count(4), 2);
        due("11: eight", x.letters(word("abcdefgh")), 10);
        due("11: seven would be 17", x.letters(word("abcdefg")), FULL);
        due("11: OUTSIDE ahead of FULL", x.letters(word("abcdef" + (char) 127)), OUTSIDE);
        due("11: six are 16", x.letters(word("abcdef")), 16);
        due("11: full", x.letters(97), FULL);
        due("11: nothing more", x.letters(0), 16);
    }

    private static void promise12() {
        OughtKnown x = new OughtKnown();
        due("12: empty", x.blank(), 0);
        x.letters(word("abc"));
        due("12: three", x.blank(), 3);
        due("12: it is empty then", x.count(4), 0);
        due("12: none are left", x.letters(97), 1);
    }

    private static void promise13() {
        String[] pages = {"", "d", "e", "n", "b", "a", "D", "da", "dc", "dx", "dd", "dal", "dag", "dall", "dalg", "dagl", "dagg",
            "dah", "dalh", "dagh", "dalgh", "dalghh", "dah0", "dah00", "dah000", "dah999", "dah9990", "dah9a", "dahl", "da1",
            "zdal", "dalgh12", "dalgh12g", "dac", "dah/", "dah:"};
        int[] faults = {0, 1, 1, 1, 1, 0, 0, 2, 2, 2, 1, 3, 3, 3, 4, 3, 3,
            3, 4, 4, 5, 5, 4, 5, 6, 6, 6, 4, 3, 2,
            0, 7, 7, 2, 3, 3};
        OughtKnown x = new OughtKnown();
        for (int i = 0; i < pages.length; i++) {
            x.blank();
            x.letters(word(pages[i]));
            due("13: fault of '" + pages[i] + "'", x.fault(), faults[i]);
        }
    }

    private static void promise14() {
        String[] none = {"", "d", "dah", "ad", "dall", "dagl", "dah1000", "dah1g", "da ", "dalgh", "xa", "D"};
        OughtKnown x = land(2);
        for (String text : none) {
            due("14: '" + text + "' is none", law(x, text), STATE);
            due("14: the page stays", x.count(4), text.length());
        }
        due("14: none was kept", x.count(3), 0);
        String[] some = {"da", "exl", "ncgh7", "bxlgh999"};
        for (int i = 0; i < some.length; i++) {
            x.blank();
            due("14: letters of " + some[i], x.letters(word(some[i])), some[i].length());
            due("14: law " + i, x.law(), i);
            due("14: the page is empty then", x.count(4), 0);
        }
        due("14: STATE ahead of FULL", law(x, "q"), STATE);
        due("14: full", law(x, "da"), FULL);
        due("14: the page stays", x.count(4), 2);
        due("14: four laws", x.count(3), 4);
    }

    private static void promise14Days() {
        OughtKnown x = land(3);
        entered(x, SALE, 0, 1, 10, 13);
        sale(x, 0, 2, 11);
        x.enter(1, 14, NONE, NONE);
        due("14: h3 counts both", x.prevails(law(x, "exh3"), 0, 1), 0);
        due("14: h2 counts neither", x.prevails(law(x, "exh02"), 0, 1), 0);
        OughtKnown y = land(3);
        entered(y, SALE, 0, 1, 10, 14);
        entered(y, SALE, 0, 2, 11, 14);
        due("14: h4 counts both, the lesser number", y.prevails(law(y, "exh4"), 0, 1), 0);
        due("14: h3 counts the second alone", y.prevails(law(y, "exh003"), 0, 1), 1);
        due("14: h0 counts neither", y.prevails(law(y, "exh0"), 0, 1), 0);
        OughtKnown z = land(3);
        entered(z, SALE, 0, 1, 0, 999);
        entered(z, SALE, 0, 2, 999, 999);
        due("14: without h 999", z.prevails(law(z, "ex"), 0, 1), 0);
        due("14: h998 is too short", z.prevails(law(z, "exh998"), 0, 1), 1);
        due("14: h0 on its own day counts", z.prevails(law(z, "exh0"), 0, 1), 1);
    }

    private static void promise15() {
        OughtKnown x = land(6);
        x.field(0);
        int a = entered(x, SALE, 0, 1, 1, 10);
        int b = entered(x, DEED, 1, 2, 2, 20);
        int c = entered(x, GIFT, 2, 3, 3, 30);
        int debt = entered(x, DEBT, 1, 4, 4, 15);
        int early = entered(x, DEBT, 1, 4, 4, 9);
        int late = entered(x, DEBT, 1, 4, 4, 21);
        int edge = entered(x, DEBT, 2, 4, 4, 30);
        int other = x.deed(SALE, 1, 2, 3, 5);
        x.enter(other, 30, NONE, NONE);
        int bits = 1 << a | 1 << b | 1 << c | 1 << debt | 1 << edge;
        due("15: found back through four names", x.search(0, 3, 40, 0), bits);
        due("15: used", x.search(0, 3, 40, 1), 3);
        due("15: it ends at the root's name", x.search(0, 3, 40, 2), 0);
        due("15: until its day", x.search(0, 3, 30, 1), 3);
        due("15: ahead of it nothing", x.search(0, 3, 29, 1), 0);
        due("15: it ends where it began", x.search(0, 3, 29, 2), 3);
        due("15: the other field", x.search(1, 3, 40, 0), 1 << other);
        due("15: a lesser day", x.search(0, 2, 20, 0), 1 << a | 1 << b | 1 << debt);
        due("15: neither too early nor too late", x.search(0, 2, 999, 0) & (1 << early | 1 << late), 0);
        due("15: the first name until the day of the search", x.search(0, 1, 999, 0), 1 << a | 1 << b | 1 << debt | 1 << late);
        due("15: field", x.search(2, 0, 0, 0), UNKNOWN);
        due("15: person ahead of day", x.search(0, 6, -1, 0), UNKNOWN);
        due("15: person below", x.search(0, -1, 0, 0), UNKNOWN);
        due("15: day below", x.search(0, 0, -1, 0), OUTSIDE);
        due("15: day above", x.search(0, 0, 1000, 0), OUTSIDE);
        due("15: what below", x.search(0, 0, 0, -1), OUTSIDE);
        due("15: what above", x.search(0, 0, 0, 3), OUTSIDE);
    }

    private static void promise15Edges() {
        OughtKnown x = land(6);
        int first = entered(x, SALE, 0, 3, 1, 10);
        int second = entered(x, SALE, 1, 3, 1, 10);
        due("15: of like ones the greatest number", x.search(0, 3, 10, 2), 1);
        x.leaf(second, true);
        due("15: a lost leaf is not used", x.search(0, 3, 10, 2), 0);
        x.leaf(second, false);
        x.enter(x.deed(DARK, 0, 2, 3, 1), 20, NONE, NONE);
        due("15: a dark one is not used", x.search(0, 3, 99, 2), 1);
        x.enter(x.deed(DEBT, 0, 2, 3, 1), 20, NONE, NONE);
        due("15: a debt is not used", x.search(0, 3, 99, 2), 1);
        due("15: but it is found", x.search(0, 2, 99, 0), 1 << 3);
        x.enter(x.deed(SALE, 0, 2, 4, 1), 30, 7, 8);
        due("15: under its right name nothing", x.search(0, 4, 99, 1), 0);
        x.person(8);
        due("15: under the written name", x.search(0, 6, 99, 2), 7);
        due("15: found under the written giver", x.search(0, 6, 99, 0), 1 << 4);
        OughtKnown y = land(2);
        entered(y, SALE, 0, 1, 1, 10);
        entered(y, SALE, 1, 0, 2, 20);
        due("15: to and fro, each once", y.search(0, 0, 99, 1), 2);
        due("15: it ends where nothing is left", y.search(0, 0, 99, 2), 0);
        due("15: until that day, whichever name", y.search(0, 1, 99, 1), 2);
        y.enter(y.deed(SALE, 0, 0, 1, 5), 15, 4, 4);
        y.person(4);
        due("15: from a name to itself", y.search(0, 2, 99, 1), 1);
        due("15: ends at itself", y.search(0, 2, 99, 2), 4);
        due("15: found by itself", y.search(0, 2, 99, 0), 1 << 2);
        due("15: number of the first", first, 0);
        OughtKnown z = land(10);
        for (int i = 0; i < 16; i++) {
            entered(z, SALE, i % 10, (i + 1) % 10, i, i);
        }
        due("15: sixteen are used", z.search(0, 6, 999, 1), 16);
        due("15: all are found, the first by the last name", z.search(0, 6, 999, 0), 65535);
    }

    private static void promise16() {
        OughtKnown x = land(8);
        int a = entered(x, SALE, 0, 1, 10, 12);
        int b = entered(x, SALE, 0, 2, 10, 20);
        int c = x.deed(SALE, 0, 0, 3, 12);
        int mark = x.deed(SALE, 0, 5, 4, 20);
        int apart = x.deed(SALE, 0, 6, 7, 5);
        int xx = law(x, "dx"), aa = law(x, "da"), cc = law(x, "dc"), ll = law(x, "dxl");
        due("16: x, nothing", x.held(xx, c), 0);
        due("16: a, until its day", x.held(aa, c), 1 << a);
        due("16: a, on the day", x.held(aa, mark), 1 << a | 1 << b);
        due("16: a, ahead alone", x.held(aa, a), 0);
        due("16: c, the giver's search", x.held(cc, c), 1 << a);
        due("16: c, a giver outside the chain", x.held(cc, mark), 0);
        x.knew(c, 65535);
        due("16: knew, those made ahead alone", x.held(xx, c), 1 << a | 1 << b | 1 << apart);
        x.knew(b, 65535);
        due("16: of like days the lesser number", x.held(xx, b), 1 << a | 1 << apart);
        x.knew(apart, 65535);
        due("16: none is ahead of the first", x.held(xx, apart), 0);
        x.lives(0, 2, 20);
        due("16: l, from that day on", x.held(ll, mark), 1 << b);
        x.lives(0, 2, 21);
        due("16: l, not yet", x.held(ll, mark), 0);
        x.lives(0, 2, 0);
        due("16: without l not", x.held(xx, mark), 0);
        due("16: l and knew", x.held(ll, c), 1 << a | 1 << b | 1 << apart);
        x.leaf(a, true);
        due("16: a lost leaf", x.held(aa, mark), 1 << b);
        due("16: law above", x.held(4, 0), UNKNOWN);
        due("16: law below", x.held(-1, 0), UNKNOWN);
        due("16: deed above", x.held(0, 5), UNKNOWN);
        due("16: deed below", x.held(0, -1), UNKNOWN);
        x.field(1);
        int far = x.deed(SALE, 1, 0, 1, 500);
        x.knew(far, 65535);
        due("16: another field", x.held(aa, far), 0);
        x.lives(1, 1, 0);
        due("16: living on another field", x.held(ll, far), 0);
    }

    private static void promise17() {
        OughtKnown x = land(4);
        int a = entered(x, SALE, 0, 1, 10, 20);
        int b = entered(x, SALE, 0, 2, 11, 15);
        int gift = entered(x, GIFT, 0, 3, 12, 14);
        int d = law(x, "da"), e = law(x, "ea"), n = law(x, "na"), both = law(x, "bag");
        due("17: d, the one made ahead", x.prevails(d, b, a), a);
        due("17: e, the one entered ahead", x.prevails(e, a, b), b);
        due("17: e, a gift too", x.prevails(e, gift, b), gift);
        due("17: n, paid and not held", x.prevails(n, a, b), b);
        due("17: n, a gift is not paid", x.prevails(n, a, gift), a);
        due("17: b with g, a gift is paid", x.prevails(both, gift, a), gift);
        x.knew(b, 1 << a);
        due("17: n, it knew", x.prevails(n, a, b), a);
        due("17: b, it knew", x.prevails(both, a, b), a);
        due("17: e, whatever it knew", x.prevails(e, a, b), b);
        due("17: law", x.prevails(4, 0, 1), UNKNOWN);
        due("17: a", x.prevails(0, 3, 1), UNKNOWN);
        due("17: b", x.prevails(0, 0, 3), UNKNOWN);
        due("17: below", x.prevails(0, -1, 0), UNKNOWN);
        due("17: the same", x.prevails(0, 1, 1), UNKNOWN);
        x.field(1);
        x.deed(SALE, 1, 1, 2, 0);
        due("17: unlike fields", x.prevails(0, 0, 3), UNKNOWN);
        OughtKnown y = land(4);
        int late = y.deed(DEED, 0, 0, 1, 30);
        int soon = y.deed(DARK, 0, 0, 2, 20);
        int debt = y.deed(DEBT, 0, 0, 3, 40);
        int ex = law(y, "ex"), nx = law(y, "nx"), bx = law(y, "bx");
        due("17: neither is entered", y.prevails(ex, late, soon), soon);
        y.enter(late, 50, NONE, NONE);
        due("17: one that is not entered is behind all", y.prevails(ex, late, soon), late);
        due("17: n, a DEED is not paid", y.prevails(nx, late, soon), soon);
        due("17: n, a DEBT is", y.prevails(nx, late, debt), debt);
        due("17: b, both are needed", y.prevails(bx, late, debt), late);
        y.enter(soon, 50, NONE, NONE);
        due("17: on like days the lesser number", y.prevails(ex, soon, late), late);
    }

    private static OughtKnown ring() {
        OughtKnown x = land(5);
        sale(x, 0, 1, 10);
        sale(x, 0, 2, 11);
        sale(x, 0, 3, 12);
        x.knew(1, 1);
        x.knew(2, 2);
        return x;
    }

    private static void promise18() {
        OughtKnown x = ring();
        int n = law(x, "nx"), d = law(x, "dx");
        due("18: empty", x.first(n, 0), NONE);
        due("18: one", x.first(n, 4), 2);
        due("18: two, the first held", x.first(n, 3), 0);
        due("18: two, the second held", x.first(n, 6), 1);
        due("18: two, not held", x.first(n, 5), 2);
        due("18: a ring, the one made first", x.first(n, 7), 0);
        x.knew(1, 0);
        due("18: no ring", x.first(n, 7), 1);
        due("18: by another law", x.first(d, 6), 1);
        due("18: law ahead of set", x.first(2, -1), UNKNOWN);
        due("18: set below", x.first(n, -1), OUTSIDE);
        due("18: set above", x.first(n, 65536), OUTSIDE);
        due("18: a deed that is not there", x.first(n, 8), UNKNOWN);
        due("18: one of them is not there", x.first(n, 0x8001), UNKNOWN);
        x.field(1);
        x.deed(SALE, 1, 0, 1, 0);
        due("18: unlike fields", x.first(n, 9), STATE);
        due("18: UNKNOWN ahead of STATE", x.first(n, 25), UNKNOWN);
        due("18: a set of the other field", x.first(n, 8), 3);
        OughtKnown y = land(5);
        sale(y, 0, 1, 12);
        sale(y, 0, 2, 11);
        sale(y, 0, 3, 10);
        due("18: made first is by days", y.first(law(y, "dx"), 7), 2);
    }

    private static void promise19() {
        OughtKnown x = land(6);
        int d = law(x, "dx"), e = law(x, "ex");
        due("19: the root's", x.whose(d, 0, 0), 0);
        due("19: none used", x.whose(d, 0, 1), 0);
        due("19: none is the first", x.whose(d, 0, 10), NONE);
        sale(x, 0, 1, 10);
        entered(x, SALE, 0, 2, 11, 11);
        x.deed(DEBT, 0, 1, 5, 1);
        x.deed(GIFT, 0, 1, 3, 5);
        due("19: d, owner, a deed older than its giver's", x.whose(d, 0, 0), 3);
        due("19: d, used", x.whose(d, 0, 1), 2);
        due("19: d, the first", x.whose(d, 0, 10), 0);
        due("19: d, the second", x.whose(d, 0, 11), 3);
        due("19: d, no third", x.whose(d, 0, 12), NONE);
        due("19: d, the last place", x.whose(d, 0, 25), NONE);
        due("19: e, owner", x.whose(e, 0, 0), 2);
        sale(x, 3, 0, 20);
        due("19: back to the root, then on with its other deed", x.whose(d, 0, 0), 2);
        due("19: four used", x.whose(d, 0, 1), 4);
        due("19: the fourth", x.whose(d, 0, 13), 1);
        due("19: law ahead of what", x.whose(2, 0, 2), UNKNOWN);
        due("19: field", x.whose(0, 1, 0), UNKNOWN);
        due("19: field below", x.whose(0, -1, 0), UNKNOWN);
        int[] outside = {-1, 2, 9, 26, LEAST, MOST};
        for (int what : outside) {
            due("19: what = " + what, x.whose(0, 0, what), OUTSIDE);
        }
    }

    private static void promise20() {
        OughtKnown x = land(7);
        int d = law(x, "dx"), e = law(x, "ex"), n = law(x, "nx");
        int early = x.deed(DEBT, 0, 0, 3, 5);
        int out = sale(x, 0, 1, 10);
        int late = entered(x, DEBT, 0, 4, 12, 13);
        int on = x.deed(DEBT, 0, 1, 5, 1);
        x.deed(DEBT, 0, 6, 5, 1);
        x.enter(out, 14, NONE, NONE);
        due("20: d, made ahead of the sale, and the new owner's", x.debts(d, 0, 0), 2);
        due("20: d, rank 0", x.debts(d, 0, 10), on);
        due("20: d, rank 1", x.debts(d, 0, 11), early);
        due("20: d, no more", x.debts(d, 0, 12), NONE);
        due("20: e, entered ahead of the sale", x.debts(e, 0, 0), 2);
        due("20: e, rank 0 is the one entered", x.debts(e, 0, 10), late);
        due("20: e, rank 1", x.debts(e, 0, 11), on);
        due("20: n, the later lender did not know", x.debts(n, 0, 0), 2);
        due("20: n, rank 0", x.debts(n, 0, 10), late);
        x.knew(late, 1 << out);
        due("20: n, it knew of the sale", x.debts(n, 0, 0), 1);
        x.knew(out, 1 << early);
        due("20: n, the buyer knew of the debt", x.debts(n, 0, 0), 2);
        due("20: the last place", x.debts(n, 0, 25), NONE);
        due("20: law ahead of what", x.debts(3, 0, 1), UNKNOWN);
        due("20: field", x.debts(0, 1, 0), UNKNOWN);
        int[] outside = {-1, 1, 9, 26, LEAST, MOST};
        for (int what : outside) {
            due("20: what = " + what, x.debts(0, 0, what), OUTSIDE);
        }
        OughtKnown y = land(5);
        for (int i = 1; i < 4; i++) {
            y.deed(DEBT, 0, 0, i, 9 + i);
        }
        y.knew(1, 1);
        y.knew(2, 2);
        int nx = law(y, "nx");
        due("20: a ring of debts, made first", y.debts(nx, 0, 10), 0);
        due("20: then the first of the others", y.debts(nx, 0, 11), 1);
        due("20: then the last", y.debts(nx, 0, 12), 2);
    }

    private static void promise21() {
        OughtKnown x = ring();
        int n = law(x, "nx"), d = law(x, "dx");
        due("21: a ring", x.rings(n, 0), 1);
        due("21: d has none", x.rings(d, 0), 0);
        sale(x, 0, 4, 13);
        due("21: one that beats all is in none", x.rings(n, 0), 1);
        x.knew(3, 2);
        due("21: two share it", x.rings(n, 0), 2);
        x.knew(2, 0);
        due("21: one goes, another comes", x.rings(n, 0), 2);
        due("21: law", x.rings(2, 0), UNKNOWN);
        due("21: field", x.rings(0, 1), UNKNOWN);
        due("21: field below", x.rings(0, -1), UNKNOWN);
        OughtKnown y = land(5);
        sale(y, 0, 1, 10);
        sale(y, 0, 2, 11);
        y.deed(DEBT, 0, 0, 3, 12);
        y.knew(1, 1);
        y.knew(2, 2);
        due("21: a debt does not pass", y.rings(law(y, "nx"), 0), 0);
        OughtKnown z = land(5);
        sale(z, 0, 1, 10);
        sale(z, 0, 2, 11);
        sale(z, 1, 3, 12);
        z.knew(1, 1);
        z.knew(2, 2);
        due("21: unlike givers", z.rings(law(z, "nx"), 0), 0);
    }

    private static void promise22() {
        OughtKnown x = land(5);
        x.field(0);
        x.field(0);
        sale(x, 0, 1, 10);
        entered(x, SALE, 0, 2, 11, 11);
        x.deed(SALE, 1, 0, 1, 10);
        x.deed(SALE, 2, 0, 1, 10);
        x.deed(SALE, 2, 0, 2, 20);
        int d = law(x, "dx"), e = law(x, "ex"), n = law(x, "nx");
        due("22: d and e", x.moves(d, e), 1);
        due("22: e and d", x.moves(e, d), 1);
        due("22: e and n", x.moves(e, n), 4);
        due("22: d and n", x.moves(d, n), 5);
        due("22: with itself", x.moves(n, n), 0);
        due("22: law", x.moves(3, 0), UNKNOWN);
        due("22: other", x.moves(0, 3), UNKNOWN);
        due("22: below", x.moves(0, -1), UNKNOWN);
    }

    private static void promise23() {
        OughtKnown x = land(5);
        int a = entered(x, SALE, 0, 1, 10, 12);
        int b = entered(x, SALE, 0, 2, 11, 13);
        int e = law(x, "ex"), n = law(x, "nx"), bc = law(x, "na"), d = law(x, "dx");
        due("23: e, on the first entry", x.hangs(e, 0, 0), a);
        due("23: e, on no knowing", x.hangs(e, 0, 1), NONE);
        due("23: n, on no entry", x.hangs(n, 0, 0), NONE);
        due("23: n, d of the pair", x.hangs(n, 0, 1), b);
        due("23: n, k of the pair", x.hangs(n, 0, 2), a);
        due("23: d, on nothing", x.hangs(d, 0, 0), NONE);
        due("23: d, on no knowing", x.hangs(d, 0, 2), NONE);
        due("23: asking changes nothing", x.about(a, 5), 12);
        due("23: asking teaches nothing", x.about(b, 9), 0);
        x.knew(b, 1 << a);
        due("23: if it did not know", x.hangs(n, 0, 1), b);
        due("23: na, entered behind its day", x.hangs(bc, 0, 0), NONE);
        OughtKnown y = land(5);
        entered(y, SALE, 0, 1, 10, 10);
        sale(y, 0, 2, 11);
        int na = law(y, "na");
        due("23: na, the entry told it", y.hangs(na, 0, 0), 0);
        due("23: na, knowing adds nothing", y.hangs(na, 0, 1), NONE);
        y.leaf(0, true);
        due("23: a lost leaf tells nothing", y.hangs(na, 0, 0), NONE);
        due("23: so it hangs on knowing", y.hangs(na, 0, 2), 0);
        due("23: law", y.hangs(1, 0, 3), UNKNOWN);
        due("23: field", y.hangs(0, 1, 0), UNKNOWN);
        due("23: what below", y.hangs(0, 0, -1), OUTSIDE);
        due("23: what above", y.hangs(0, 0, 3), OUTSIDE);
    }

    private static void promise23Days() {
        OughtKnown x = land(5);
        sale(x, 0, 1, 20);
        sale(x, 0, 2, 10);
        int n = law(x, "nx");
        due("23: the later made has the lesser number", x.hangs(n, 0, 1), 0);
        due("23: of the one made ahead", x.hangs(n, 0, 2), 1);
        x.deed(SALE, 0, 1, 2, 30);
        x.deed(SALE, 0, 2, 1, 30);
        due("23: owners may be the same by another way", x.whose(n, 0, 0), 1);
        due("23: then a knowing that leads elsewhere counts", x.hangs(n, 0, 1), 0);
    }

    private static void promise24() {
        OughtKnown x = land(5);
        x.field(0);
        int chain = entered(x, SALE, 0, 1, 1, 10);
        int lost = entered(x, SALE, 0, 2, 1, 10);
        int dark = entered(x, DARK, 0, 2, 1, 10);
        int outside = x.deed(SALE, 0, 1, 2, 5);
        x.enter(outside, 50, 9, NONE);
        int debt = x.deed(DEBT, 0, 1, 2, 5);
        x.enter(debt, 50, 9, NONE);
        sale(x, 3, 4, 5);
        x.leaf(lost, true);
        due("24: nobody has the written name: but a search comes to it", x.wild(0), 1 << lost | 1 << dark);
        int far = x.deed(SALE, 0, 1, 2, 5);
        x.enter(far, 50, 9, 8);
        int away = x.deed(SALE, 0, 1, 2, 5);
        x.enter(away, 40, 7, 8);
        due("24: outside every chain", x.wild(0), 1 << lost | 1 << dark | 1 << away);
        due("24: the other field", x.wild(1), 0);
        x.person(7);
        due("24: until somebody has the name", x.wild(0), 1 << lost | 1 << dark);
        due("24: above", x.wild(2), UNKNOWN);
        due("24: below", x.wild(-1), UNKNOWN);
        due("24: in a chain", chain, 0);
    }

    private static void promise25() {
        OughtKnown x = land(6);
        x.field(0);
        int d = law(x, "dx"), g = law(x, "dxg"), n = law(x, "nx");
        sale(x, 0, 1, 10);
        int sale = sale(x, 0, 2, 11);
        int gift = x.deed(GIFT, 0, 0, 3, 12);
        int plain = x.deed(DEED, 0, 0, 3, 12);
        int dark = x.deed(DARK, 0, 0, 4, 12);
        x.deed(DEBT, 0, 0, 4, 12);
        x.deed(SALE, 1, 0, 1, 1);
        int other = x.deed(SALE, 1, 0, 2, 2);
        int never = sale(x, 5, 2, 2);
        due("25: d, sales and darks, over all fields", x.lost(d, 0), 1 << sale | 1 << dark | 1 << other);
        due("25: with g, gifts and deeds too", x.lost(g, 0), 1 << sale | 1 << gift | 1 << plain | 1 << dark | 1 << other);
        due("25: n, the last buyer keeps it", x.lost(n, 0), 1 | 1 << sale | 1 << (other - 1));
        due("25: one who never had it", x.lost(d, 5), 1 << never);
        due("25: nobody's", x.lost(d, 1), 0);
        due("25: law", x.lost(3, 0), UNKNOWN);
        due("25: person", x.lost(0, 6), UNKNOWN);
        due("25: below", x.lost(0, -1), UNKNOWN);
    }

    private static void promise26() {
        OughtKnown x = land(5);
        x.field(0);
        x.field(0);
        int e = law(x, "ex"), n = law(x, "nx"), d = law(x, "dx"), b = law(x, "bx");
        due("26: empty ones are safe", x.safe(e), 7);
        entered(x, SALE, 0, 1, 10, 12);
        entered(x, SALE, 0, 2, 11, 13);
        x.deed(SALE, 1, 0, 1, 1);
        x.deed(SALE, 1, 0, 2, 2);
        due("26: e, it hangs on an entry", x.safe(e), 6);
        due("26: n, it hangs on a knowing", x.safe(n), 4);
        due("26: d, all", x.safe(d), 7);
        due("26: b, not entered", x.safe(b), 6);
        due("26: above", x.safe(4), UNKNOWN);
        due("26: below", x.safe(-1), UNKNOWN);
    }

    private static void promises27And28() {
        OughtKnown x = land(4);
        due("28: none was kept", x.restore(), STATE);
        due("27: an empty one", x.image(), 0);
        int d = entered(x, SALE, 0, 1, 10, 12);
        x.knew(d, 5);
        x.leaf(d, true);
        x.lives(0, 3, 30);
        due("27: the latest", x.image(), 1);
        long then = x.digest();
        x.leaf(d, false);
        x.knew(d, 6);
        x.lives(0, 2, 31);
        sale(x, 1, 2, 20);
        x.enter(1, 21, NONE, NONE);
        due("28: one deed", x.restore(), 1);
        due("28: all is as it was", x.digest(), then);
        due("28: the deed's number is free", sale(x, 1, 2, 22), 1);
        due("28: and it is new", x.about(1, 5), NONE);
        due("28: it knew nothing", x.about(1, 9), 0);
        x.enter(d, 12, NONE, NONE);
        x.person(9);
        int field = x.field(4);
        x.lives(field, 4, 1);
        law(x, "da");
        x.letters(word("ex"));
        due("28: again", x.restore(), 1);
        due("28: people stay", x.count(0), 5);
        due("28: fields stay", x.count(1), 2);
        due("28: laws stay", x.count(3), 1);
        due("28: the page stays", x.count(4), 2);
        due("28: nobody lives on a field that came since", x.lives(field, NONE, 0), NONE);
        due("28: he lives there again", x.lives(0, NONE, 0), 3);
        due("28: the image is not touched", x.restore(), 1);
        due("28: he lives there once more", x.lives(0, 1, 0), 3);
        due("28: the leaf is lost", x.about(d, 8), 1);
        due("28: it knew", x.about(d, 9), 5);
    }

    private static void promise29() {
        OughtKnown x = land(3);
        x.field(1);
        entered(x, SALE, 0, 1, 10, 12);
        entered(x, DARK, 0, 1, 10, 12);
        x.leaf(1, true);
        for (int i = 0; i < 4; i++) {
            sale(x, 0, 1, 10);
        }
        law(x, "da");
        x.letters(word("exlgh"));
        int[] want = {3, 2, 6, 1, 5, 2};
        for (int what = 0; what < 6; what++) {
            due("29: count(" + what + ")", x.count(what), want[what]);
        }
        due("29: below", x.count(-1), OUTSIDE);
        due("29: above", x.count(6), OUTSIDE);
        due("29: least", x.count(LEAST), OUTSIDE);
        due("29: most", x.count(MOST), OUTSIDE);
    }

    private static void promise30() {
        OughtKnown x = new OughtKnown();
        x.person(7);
        x.person(2);
        x.field(1);
        x.field(0);
        x.lives(1, 0, 44);
        x.deed(SALE, 0, 1, 0, 3);
        x.deed(DEBT, 0, 1, 0, 2);
        x.enter(0, 6, 5, NONE);
        x.knew(0, 2);
        law(x, "dx");
        law(x, "nx");
        x.letters(word("e!"));
        long[] all = {7, 2,
            1, -1, 0, 0, 0, 44,
            1, 0, 1, 0, 3, 6, 5, 7, 0, 2, 3, 0, 1, 0, 2, -1, -1, -1, 0, 0,
            2, 0, 0, 1, 1, 0, 0, 0, 2, 0, 0, 1, 1, 0, 0, 0,
            'e', '!', 2, 2, 2, 2, 2, 1};
        long h = 367;
        for (long number : all) {
            h = 31 * h + number;
        }
        due("30: digest", x.digest(), h);
        due("30: asking changes nothing", x.digest(), h);
    }

    private static void strangeNumbersEverywhere() {
        int[] strange = {LEAST, LEAST + 1, -105, -2, -1, 0, 1, 2, 3, 9, 10, 15, 16, 25, 26, 31, 32, 33, 999, 1000, 65535, 65536, MOST - 1, MOST};
        OughtKnown full = land(12);
        for (int i = 0; i < 5; i++) {
            full.field(i);
        }
        for (int i = 0; i < 16; i++) {
            full.deed(i % 5, i % 6, i % 12, (i + 1) % 12, 999 - i);
        }
        OughtKnown[] both = {new OughtKnown(), full};
        // A machine that throws ends the test; the sum only keeps the calls from being left out.
        long sum = 0;
        for (OughtKnown x : both) {
            for (int a : strange) {
                sum += x.person(a) + x.field(a) + x.wild(a) + x.safe(a) + x.count(a) + x.letters(a) + x.fault() + x.law() + x.blank();
                for (int b : strange) {
                    sum += x.as(a, b) + x.about(a, b) + x.leaf(a, b > 0) + x.knew(a, b) + x.held(a, b) + x.first(a, b)
                        + x.rings(a, b) + x.moves(a, b) + x.lost(a, b);
                    for (int c : strange) {
                        sum += x.lives(a, b, c) + x.prevails(a, b, c) + x.whose(a, b, c) + x.debts(a, b, c) + x.hangs(a, b, c)
                            + x.enter(a, b, c, a) + x.search(a, b, c, 0) + x.search(0, a, b, c) + x.deed(a, b, c, a, b) + x.deed(0, a, b, c, 0);
                    }
                }
            }
            sum += x.digest();
        }
        System.out.println("strange numbers sum up to " + sum);
    }

    public static void main(String[] args) {
        promise1();
        promise2();
        promise3();
        promise4();
        promise5();
        promise6();
        promise7();
        promise8();
        promise9();
        promise10();
        promise11();
        promise12();
        promise13();
        promise14();
        promise14Days();
        promise15();
        promise15Edges();
        promise16();
        promise17();
        promise18();
        promise19();
        promise20();
        promise21();
        promise22();
        promise23();
        promise23Days();
        promise24();
        promise25();
        promise26();
        promises27And28();
        promise29();
        promise30();
        strangeNumbersEverywhere();
        System.out.println(asked + " answers, " + wrong + " not as due");
        if (wrong != 0) {
            System.exit(1);
        }
    }
}
