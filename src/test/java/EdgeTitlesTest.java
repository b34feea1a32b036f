/** The edges that promises 19 to 26 name: whose a FIELD is, its DEBTS, RINGS, MOVES, HANGS, WILD, LOST, SAFE. */
public final class EdgeTitlesTest {
    private static final int[] OUTSIDE_PLACES = {Edge.LEAST, -10, -1, 2, 3, 4, 5, 6, 7, 8, 9, 26, 27, 32, 42, Edge.MOST};
    private static final int[] UNKNOWN_LAWS = {Edge.LEAST, -1, 1, 4, Edge.MOST};

    private static void due(String what, long got, long want) {
        Edge.due(what, got, want);
    }

    private static void usedAre(String when, OughtKnown x, int law, int owner, int... used) {
        due(when + ": owner", x.whose(law, 0, 0), owner);
        due(when + ": how many were used", x.whose(law, 0, 1), used.length);
        for (int i = 0; i < 16; i++) {
            due(when + ": used at " + i, x.whose(law, 0, 10 + i), i < used.length ? used[i] : -1);
        }
    }

    private static void debtsAre(String when, OughtKnown x, int law, int... ranked) {
        due(when + ": how many ride", x.debts(law, 0, 0), ranked.length);
        for (int i = 0; i < 16; i++) {
            due(when + ": rank " + i, x.debts(law, 0, 10 + i), i < ranked.length ? ranked[i] : -1);
        }
    }

    private static void nothingUsed() {
        Edge.says("WHOSE a FIELD is: ROOT's; .. until there is none (nothing used)");
        OughtKnown x = Edge.land(12, 0);
        x.field(11);
        int d = Edge.law(x, "dx"), n = Edge.law(x, "ncl");
        usedAre("no deeds, d", x, d, 11);
        usedAre("no deeds, n", x, n, 11);
        x.deed(Edge.SALE, 0, 1, 2, 0);
        x.deed(Edge.SALE, 0, 2, 11, 0);
        x.deed(Edge.DEBT, 0, 11, 3, 0);
        usedAre("deeds of others and a debt, d", x, d, 11);
        usedAre("deeds of others and a debt, n", x, n, 11);
        x.field(11);
        x.deed(Edge.SALE, 1, 11, 4, 0);
        usedAre("deeds of another field", x, d, 11);
        due("that is the other's", x.whose(d, 1, 0), 4);
    }

    private static void allUsed() {
        Edge.says("10 and i the i-th that was used (all used)");
        OughtKnown x = Edge.land(2, 1);
        for (int i = 0; i < 16; i++) {
            x.deed(Edge.SALE, 0, i % 2, 1 - i % 2, i);
        }
        usedAre("to and fro, d", x, Edge.law(x, "dx"), 0, 0, 1, 2, 3, 4, 5, 6, 7, 8, 9, 10, 11, 12, 13, 14, 15);
        usedAre("to and fro, n", x, Edge.law(x, "nx"), 0, 14, 15, 12, 13, 10, 11, 8, 9, 6, 7, 4, 5, 2, 3, 0, 1);
        OughtKnown y = Edge.land(12, 1);
        for (int i = 0; i < 16; i++) {
            y.deed(i % 3, 0, i % 12, (i + 1) % 12, 999 - i);
        }
        usedAre("round the people", y, Edge.law(y, "da"), 4, 12, 13, 14, 15, 4, 5, 6, 7, 8, 9, 10, 11, 0, 1, 2, 3);
    }

    private static void eachKindPasses() {
        Edge.says("DEEDS, SALES, GIFTS, DARKS PASS the FIELD; a DEBT rides on it");
        for (int kind = 0; kind < 5; kind++) {
            OughtKnown x = Edge.land(3, 1);
            x.deed(kind, 0, 0, 1, 0);
            int d = Edge.law(x, "dx");
            if (kind == Edge.DEBT) {
                usedAre("kind " + kind, x, d, 0);
                debtsAre("kind " + kind, x, d, 0);
            } else {
                usedAre("kind " + kind, x, d, 1, 0);
                debtsAre("kind " + kind, x, d);
            }
        }
    }

    private static void whoseRefuses() {
        Edge.says("19: UNKNOWN: law, field; OUTSIDE: what (10 to 25 else)");
        OughtKnown x = Edge.land(3, 2);
        x.deed(Edge.SALE, 0, 0, 1, 0);
        Edge.law(x, "dx");
        for (int what : OUTSIDE_PLACES) {
            Edge.refused("whose, what " + what, Edge.OUTSIDE, x, y -> y.whose(0, 0, what));
            if (what != 1) {
                Edge.refused("debts, what " + what, Edge.OUTSIDE, x, y -> y.debts(0, 0, what));
            }
        }
        Edge.says("20: UNKNOWN: law, field; OUTSIDE: what (10 to 25 else)");
        Edge.refused("debts, what 1", Edge.OUTSIDE, x, y -> y.debts(0, 0, 1));
        for (int law : UNKNOWN_LAWS) {
            Edge.refused("whose by " + law, Edge.UNKNOWN, x, y -> y.whose(law, 0, 2));
            Edge.refused("debts by " + law, Edge.UNKNOWN, x, y -> y.debts(law, 0, 2));
            int field = law == 1 ? 2 : law;
            Edge.refused("whose " + field, Edge.UNKNOWN, x, y -> y.whose(0, field, 26));
            Edge.refused("debts of " + field, Edge.UNKNOWN, x, y -> y.debts(0, field, 26));
        }
    }

    private static void debtsOfOwners() {
        Edge.says("DEBTS from one of its owners (whenever)");
        OughtKnown x = Edge.land(6, 2);
        int d = Edge.law(x, "dx");
        debtsAre("no debt", x, d);
        int roots = x.deed(Edge.DEBT, 0, 0, 5, 10);
        debtsAre("the root's, nothing used", x, d, roots);
        int takers = x.deed(Edge.DEBT, 0, 1, 5, 0);
        debtsAre("one who does not own it", x, d, roots);
        x.deed(Edge.DEBT, 1, 0, 5, 0);
        debtsAre("on another field", x, d, roots);
        x.deed(Edge.SALE, 0, 0, 1, 10);
        debtsAre("he owns it later, and the root owned it", x, d, takers, roots);
        x.deed(Edge.SALE, 0, 1, 2, 11);
        debtsAre("he owned it in between", x, d, takers, roots);
        int last = x.deed(Edge.DEBT, 0, 2, 5, 999);
        debtsAre("the last owner's", x, d, takers, roots, last);
        x.deed(Edge.DEBT, 0, 4, 5, 0);
        debtsAre("one who never owns it", x, d, takers, roots, last);
    }

    private static void debtsBeaten() {
        Edge.says("over which no DEED that was used from that one PREVAILS");
        OughtKnown x = Edge.land(6, 1);
        int same = x.deed(Edge.DEBT, 0, 0, 5, 10);
        x.deed(Edge.SALE, 0, 0, 1, 10);
        x.deed(Edge.DEBT, 0, 0, 5, 10);
        int d = Edge.law(x, "dx"), e = Edge.law(x, "ex"), n = Edge.law(x, "nx");
        debtsAre("d: on the same day the lesser number alone", x, d, same);
        debtsAre("e: neither is entered", x, e, same);
        debtsAre("n: the later one did not know", x, n, 2);
        x.knew(2, Edge.bits(1));
        debtsAre("n: it knew, so none rides", x, n);
        x.knew(1, Edge.bits(0));
        debtsAre("n: the buyer knew of the first", x, n, 0);
        x.deed(Edge.SALE, 0, 1, 2, 1);
        debtsAre("d: a deed from another owner does not beat it", x, d, same);
        OughtKnown far = Edge.land(12, 0);
        far.field(11);
        far.deed(Edge.SALE, 0, 11, 10, 10);
        far.deed(Edge.DEBT, 0, 11, 5, 11);
        far.deed(Edge.DEBT, 0, 10, 5, 12);
        debtsAre("d: the last of the people, his first deed", far, Edge.law(far, "dx"), 2);
        Edge.says("no DEED that was used");
        OughtKnown y = Edge.land(6, 1);
        y.deed(Edge.SALE, 0, 0, 1, 10);
        y.deed(Edge.DEBT, 0, 0, 5, 11);
        y.deed(Edge.SALE, 0, 0, 2, 12);
        y.knew(2, Edge.bits(0));
        int ny = Edge.law(y, "nx");
        usedAre("the second buyer knew of the first", y, ny, 1, 0);
        due("he prevails over the debt", y.prevails(ny, 1, 2), 2);
        debtsAre("but he was not used", y, ny, 1);
        OughtKnown z = Edge.land(6, 1);
        z.deed(Edge.SALE, 0, 0, 1, 10);
        z.deed(Edge.SALE, 0, 1, 0, 20);
        z.deed(Edge.SALE, 0, 0, 2, 30);
        int first = z.deed(Edge.DEBT, 0, 0, 5, 5);
        z.deed(Edge.DEBT, 0, 0, 5, 25);
        debtsAre("he owned it twice: each deed used from him counts", z, Edge.law(z, "dx"), first);
    }

    private static void ranks() {
        Edge.says("RANK: THE FIRST of them, then THE FIRST of the others, and so on (i from 0)");
        OughtKnown x = Edge.land(3, 1);
        for (int i = 0; i < 16; i++) {
            x.deed(Edge.DEBT, 0, 0, 1 + i % 2, 100 - i);
        }
        debtsAre("sixteen, d", x, Edge.law(x, "dx"), 15, 14, 13, 12, 11, 10, 9, 8, 7, 6, 5, 4, 3, 2, 1, 0);
        debtsAre("sixteen, n", x, Edge.law(x, "nx"), 0, 1, 2, 3, 4, 5, 6, 7, 8, 9, 10, 11, 12, 13, 14, 15);
        x.enter(7, 999, -1, -1);
        x.enter(9, 998, -1, -1);
        debtsAre("sixteen, e", x, Edge.law(x, "ex"), 9, 7, 15, 14, 13, 12, 11, 10, 8, 6, 5, 4, 3, 2, 1, 0);
        OughtKnown y = Edge.land(3, 1);
        for (int i = 0; i < 3; i++) {
            y.deed(Edge.DEBT, 0, 0, 1, 20 - i);
        }
        y.knew(1, Edge.bits(2));
        y.knew(0, Edge.bits(1));
        debtsAre("a ring of debts: made first, then the first of the others", y, Edge.law(y, "nx"), 2, 1, 0);
    }

    private static void rings() {
        Edge.says("sets of three DEEDS of a FIELD from the same GIVER that PASS, of which over each another one PREVAILS");
        OughtKnown x = Edge.land(6, 2);
        int n = Edge.law(x, "nx"), g = Edge.law(x, "nxg"), d = Edge.law(x, "dx"), b = Edge.law(x, "bxg");
        due("no deeds", x.rings(n, 0), 0);
        x.deed(Edge.DARK, 0, 0, 1, 12);
        x.deed(Edge.SALE, 0, 0, 2, 11);
        x.knew(0, Edge.bits(1));
        due("two deeds", x.rings(n, 0), 0);
        x.deed(Edge.GIFT, 0, 0, 3, 13);
        x.knew(2, Edge.bits(0));
        due("a gift is not paid", x.rings(n, 0), 0);
        due("with g it is", x.rings(g, 0), 1);
        due("d: none", x.rings(d, 0), 0);
        due("b: not entered", x.rings(b, 0), 0);
        due("of the other field", x.rings(g, 1), 0);
        int[][] entries = {{0, 12}, {1, 14}, {2, 13}};
        for (int[] entry : entries) {
            x.enter(entry[0], entry[1], -1, -1);
        }
        // 1 over 0: he knew; 0 over 2: he knew; 2 over 1: entered ahead, and he did not know.
        due("b: a ring", x.rings(b, 0), 1);
        for (int kind = 0; kind < 5; kind++) {
            OughtKnown y = Edge.land(6, 2);
            y.deed(Edge.SALE, 0, 0, 1, 10);
            y.deed(Edge.SALE, 0, 0, 2, 11);
            y.deed(kind, 0, 0, 3, 12);
            y.knew(1, Edge.bits(0));
            y.knew(2, Edge.bits(1));
            due("the third of kind " + kind, y.rings(Edge.law(y, "nxg"), 0), kind == Edge.DEBT ? 0 : 1);
        }
        OughtKnown z = Edge.land(6, 2);
        z.deed(Edge.SALE, 0, 4, 1, 10);
        z.deed(Edge.SALE, 0, 4, 2, 11);
        z.deed(Edge.SALE, 0, 5, 3, 12);
        z.deed(Edge.SALE, 1, 4, 3, 12);
        for (int i = 1; i < 4; i++) {
            z.knew(i, i == 1 ? Edge.bits(0) : Edge.bits(1));
        }
        int nz = Edge.law(z, "nx");
        due("from another giver", z.rings(nz, 0), 0);
        z.deed(Edge.SALE, 0, 4, 3, 12);
        z.knew(4, Edge.bits(1));
        due("from one who owns nothing", z.rings(nz, 0), 1);
    }

    private static void manyRings() {
        Edge.says("21: RINGS of three: fifteen deeds, each over seven");
        OughtKnown x = Edge.land(3, 1);
        for (int i = 0; i < 15; i++) {
            x.deed(Edge.SALE, 0, 0, 1 + i % 2, 10);
            x.knew(i, i < 8 ? 0 : (1 << i - 7) - 1);
        }
        int n = Edge.law(x, "nx");
        due("455 sets of three, 15 times 21 with one over both", x.rings(n, 0), 140);
        due("the one made first", x.first(n, 32767), 0);
        x.deed(Edge.SALE, 0, 0, 1, 10);
        due("and one over all", x.rings(n, 0), 140);
        due("that is the first", x.first(n, 65535), 15);
    }

    private static void ringsRefuse() {
        Edge.says("21: RINGS of three of a FIELD by a law. UNKNOWN");
        OughtKnown x = Edge.land(3, 2);
        Edge.law(x, "dx");
        for (int law : UNKNOWN_LAWS) {
            Edge.refused("rings by " + law, Edge.UNKNOWN, x, y -> y.rings(law, 0));
            int field = law == 1 ? 2 : law;
            Edge.refused("rings of " + field, Edge.UNKNOWN, x, y -> y.rings(0, field));
        }
        due("the last field", x.rings(0, 1), 0);
    }

    private static void moves() {
        Edge.says("22: MOVES: FIELDS whose owner is another one by another law (laws that are the same one)");
        OughtKnown x = Edge.land(4, 0);
        int d = Edge.law(x, "dx"), n = Edge.law(x, "nx"), same = Edge.law(x, "dx"), e = Edge.law(x, "ex");
        due("no fields", x.moves(d, n), 0);
        for (int field = 0; field < 6; field++) {
            x.field(0);
            due("no deeds on " + field, x.moves(d, n), (1 << field) - 1);
            x.deed(Edge.SALE, field, 0, 1, 10);
            due("one deed on " + field, x.moves(d, n), (1 << field) - 1);
            x.deed(Edge.SALE, field, 0, 2, 11);
            due("two deeds on " + field, x.moves(d, n), (2 << field) - 1);
        }
        due("the other way round", x.moves(n, d), 63);
        due("with itself", x.moves(n, n), 0);
        due("with one of the same text", x.moves(d, same), 0);
        due("with one that comes to the same", x.moves(d, e), 0);
        x.enter(11, 20, -1, -1);
        due("the last field alone", x.moves(d, e), 32);
        due("all but the last", x.moves(e, n), 31);
        x.deed(Edge.SALE, 5, 1, 3, 10);
        x.deed(Edge.SALE, 5, 2, 3, 10);
        due("the same owner by another way", x.moves(d, e), 0);
        Edge.says("22: UNKNOWN: laws");
        int[] wrong = {Edge.LEAST, -1, 4, Edge.MOST};
        for (int law : wrong) {
            Edge.refused("moves(" + law + ", 0)", Edge.UNKNOWN, x, y -> y.moves(law, 0));
            Edge.refused("moves(0, " + law + ")", Edge.UNKNOWN, x, y -> y.moves(0, law));
            Edge.refused("moves(" + law + ", " + law + ")", Edge.UNKNOWN, x, y -> y.moves(law, law));
        }
    }

    private static void hangsOn(String when, OughtKnown x, int law, int entry, int d, int k) {
        long before = x.digest();
        due(when + ": by its entry", x.hangs(law, 0, 0), entry);
        due(when + ": d of the pair", x.hangs(law, 0, 1), d);
        due(when + ": k of the pair", x.hangs(law, 0, 2), k);
        due(when + ": safe", x.safe(law) & 1, entry == -1 && d == -1 ? 1 : 0);
        due(when + ": asking changes nothing", x.digest(), before);
    }

    private static void nothingHangs() {
        Edge.says("23: NONE: none does (a FIELD on which nothing HANGS)");
        String[] texts = {"dx", "ea", "ncl", "bxg"};
        OughtKnown x = Edge.land(4, 2);
        for (int i = 0; i < 4; i++) {
            hangsOn("no deeds, " + texts[i], x, Edge.law(x, texts[i]), -1, -1, -1);
        }
        Edge.entered(x, Edge.SALE, 0, 0, 1, 5, 5);
        Edge.entered(x, Edge.DEBT, 0, 0, 2, 6, 6);
        Edge.entered(x, Edge.SALE, 1, 0, 2, 4, 4);
        Edge.entered(x, Edge.SALE, 1, 0, 3, 5, 5);
        for (int i = 0; i < 4; i++) {
            hangsOn("one deed, a debt, and others on another field, " + texts[i], x, i, -1, -1, -1);
        }
        x.deed(Edge.SALE, 0, 0, 1, 7);
        for (int i = 0; i < 4; i++) {
            hangsOn("twice to the same one, " + texts[i], x, i, -1, -1, -1);
        }
    }

    private static void hangsByEntry() {
        Edge.says("HANGS: the least DEED that, if it were not entered, would change whose the FIELD is");
        OughtKnown x = Edge.land(6, 1);
        int e = Edge.law(x, "ex");
        Edge.entered(x, Edge.SALE, 0, 0, 1, 10, 12);
        x.deed(Edge.SALE, 0, 0, 2, 11);
        hangsOn("the one made ahead is first anyway", x, e, -1, -1, -1);
        x.enter(1, 13, -1, -1);
        hangsOn("else the other one would be", x, e, 0, -1, -1);
        Edge.entered(x, Edge.SALE, 0, 0, 3, 12, 12);
        hangsOn("on like days the lesser number", x, e, 0, -1, -1);
        Edge.entered(x, Edge.SALE, 0, 0, 4, 12, 12);
        Edge.entered(x, Edge.SALE, 0, 0, 5, 9, 9);
        hangsOn("made first and entered first: else the others' entries would be ahead", x, e, 4, -1, -1);
        OughtKnown y = Edge.land(6, 1);
        y.deed(Edge.SALE, 0, 0, 1, 10);
        Edge.entered(y, Edge.SALE, 0, 0, 2, 11, 11);
        Edge.entered(y, Edge.SALE, 0, 2, 3, 20, 25);
        Edge.entered(y, Edge.SALE, 0, 2, 4, 21, 24);
        hangsOn("the least of two", y, Edge.law(y, "ex"), 1, -1, -1);
        hangsOn("the second was entered too late to count", y, Edge.law(y, "exh3"), 1, -1, -1);
        for (int kind = 0; kind < 5; kind++) {
            OughtKnown any = Edge.land(6, 1);
            any.deed(Edge.SALE, 0, 0, 1, 10);
            Edge.entered(any, kind, 0, 0, 2, 11, 11);
            int ea = Edge.law(any, "ea");
            hangsOn("an entry of kind " + kind, any, ea, kind == Edge.DEBT ? -1 : 1, -1, -1);
            any.leaf(1, true);
            hangsOn("its leaf is lost, but it is entered, kind " + kind, any, ea, kind == Edge.DEBT ? -1 : 1, -1, -1);
        }
        OughtKnown z = Edge.land(10, 1);
        int link = Edge.written(z, Edge.SALE, 3, 4, 3, 7, 0);
        int hidden = Edge.written(z, Edge.SALE, 0, 1, 1, 7, -1);
        z.deed(Edge.SALE, 0, 0, 2, 5);
        int nc = Edge.law(z, "nc");
        due("by the link he finds it", z.held(nc, 2), Edge.bits(link, hidden));
        hangsOn("an entry outside the title, on which a search goes", z, nc, link, -1, -1);
        z.leaf(link, true);
        due("without the link he does not", z.held(nc, 2), 0);
        hangsOn("so it hangs on what he knew", z, nc, -1, 2, hidden);
    }

    private static void hangsByKnowing() {
        Edge.says("the least pair (DEED d, then other DEED k made ahead of it) of which, if d's TAKER KNEW of k (or did not, if it did), would");
        OughtKnown x = Edge.land(6, 2);
        int n = Edge.law(x, "nx"), b = Edge.law(x, "bx"), g = Edge.law(x, "nxg");
        x.deed(Edge.SALE, 0, 0, 1, 10);
        x.deed(Edge.SALE, 0, 0, 2, 10);
        hangsOn("of one day the lesser number is ahead", x, n, -1, 1, 0);
        hangsOn("b: not entered", x, b, -1, -1, -1);
        x.knew(1, Edge.bits(0));
        hangsOn("if it did not", x, n, -1, 1, 0);
        x.knew(1, 65535);
        hangsOn("if it did not, whatever else it knew", x, n, -1, 1, 0);
        x.knew(1, 0);
        x.deed(Edge.SALE, 0, 0, 3, 11);
        hangsOn("the least k: then there would be a ring", x, n, -1, 2, 0);
        x.knew(2, Edge.bits(0));
        hangsOn("a ring: (1, 0) would end it, but not move the field; (2, 0) does", x, n, -1, 2, 0);
        OughtKnown y = Edge.land(6, 2);
        y.deed(Edge.SALE, 0, 0, 1, 20);
        y.deed(Edge.GIFT, 0, 0, 2, 10);
        y.deed(Edge.GIFT, 0, 0, 3, 30);
        int ny = Edge.law(y, "nx"), gy = Edge.law(y, "nxg");
        hangsOn("k has the greater number", y, ny, -1, 0, 1);
        hangsOn("with g the gift is first, made last", y, gy, -1, 2, 0);
        y.knew(0, Edge.bits(1));
        hangsOn("with g and one who knew: then a ring", y, gy, -1, 2, 0);
        OughtKnown next = Edge.land(6, 1);
        next.deed(Edge.SALE, 0, 0, 1, 5);
        next.deed(Edge.SALE, 0, 1, 2, 10);
        next.deed(Edge.SALE, 0, 1, 3, 11);
        hangsOn("a lesser k from another giver moves nothing", next, Edge.law(next, "nx"), -1, 2, 1);
        next.deed(Edge.DEBT, 0, 0, 4, 3);
        next.deed(Edge.DEBT, 0, 0, 4, 12);
        hangsOn("nor does a debt", next, 0, -1, 2, 1);
        OughtKnown same = Edge.land(6, 1);
        same.deed(Edge.SALE, 0, 0, 2, 5);
        same.deed(Edge.SALE, 0, 0, 1, 10);
        same.deed(Edge.SALE, 0, 0, 2, 11);
        hangsOn("(2, 0) makes a ring, but the owner is the same; (2, 1) moves it", same, Edge.law(same, "nx"), -1, 2, 1);
        OughtKnown gift = Edge.land(6, 1);
        gift.deed(Edge.SALE, 0, 0, 1, 10);
        gift.deed(Edge.GIFT, 0, 0, 2, 11);
        gift.deed(Edge.SALE, 0, 0, 3, 12);
        gift.knew(2, Edge.bits(1));
        hangsOn("a ring in which it is nothing what a gift's taker knew", gift, Edge.law(gift, "nx"), -1, 2, 1);
        OughtKnown z = Edge.land(6, 2);
        z.deed(Edge.SALE, 1, 0, 1, 10);
        z.deed(Edge.SALE, 1, 0, 2, 11);
        int nz = Edge.law(z, "nx");
        hangsOn("what another field hangs on", z, nz, -1, -1, -1);
        due("d there", z.hangs(nz, 1, 1), 1);
        due("k there", z.hangs(nz, 1, 2), 0);
        due("safe is the first field alone", z.safe(nz), 1);
        due("g of a field with nothing else", x.hangs(g, 1, 1), -1);
    }

    private static void hangsRefuses() {
        Edge.says("23: UNKNOWN: law, field; OUTSIDE");
        OughtKnown x = Edge.land(3, 2);
        Edge.law(x, "dx");
        int[] outside = {Edge.LEAST, -1, 3, 10, Edge.MOST};
        for (int what : outside) {
            Edge.refused("what " + what, Edge.OUTSIDE, x, y -> y.hangs(0, 0, what));
        }
        for (int law : UNKNOWN_LAWS) {
            Edge.refused("law " + law, Edge.UNKNOWN, x, y -> y.hangs(law, 0, 3));
            int field = law == 1 ? 2 : law;
            Edge.refused("field " + field, Edge.UNKNOWN, x, y -> y.hangs(0, field, 3));
        }
    }

    private static void wild() {
        Edge.says("WILD: DEEDS of a FIELD that PASS, are entered, and are FOUND by no SEARCH on DAY 999 for any PERSON of PEOPLE");
        OughtKnown x = Edge.land(3, 2);
        due("no deeds", x.wild(0), 0);
        for (int kind = 0; kind < 5; kind++) {
            x.deed(kind, 0, 0, 1, 5);
        }
        due("not entered", x.wild(0), 0);
        for (int deed = 0; deed < 5; deed++) {
            x.enter(deed, 999, -1, -1);
        }
        due("entered on the last day: a dark one alone", x.wild(0), Edge.bits(Edge.DARK));
        for (int deed = 0; deed < 5; deed++) {
            x.leaf(deed, true);
        }
        due("all leaves lost: all but the debt", x.wild(0), Edge.bits(0, 1, 2, 4));
        due("on the other field", x.wild(1), 0);
        OughtKnown y = Edge.land(3, 1);
        int strange = Edge.written(y, Edge.SALE, 0, 1, 10, 9, 8);
        due("under names that nobody has", y.wild(0), Edge.bits(strange));
        Edge.written(y, Edge.SALE, 0, 1, 10, 8, 2);
        due("a chain that comes to it", y.wild(0), 0);
        y.leaf(1, true);
        due("and is lost", y.wild(0), Edge.bits(0, 1));
        y.person(9);
        due("somebody has the name", y.wild(0), Edge.bits(1));
        OughtKnown z = Edge.land(3, 1);
        int in = Edge.entered(z, Edge.SALE, 0, 0, 1, 0, 10);
        int early = Edge.written(z, Edge.SALE, 1, 2, 9, -1, 9);
        int same = Edge.written(z, Edge.SALE, 1, 2, 10, -1, 9);
        due("entered ahead of its giver's own", z.wild(0), Edge.bits(early));
        due("and not one of like day", z.wild(0) & Edge.bits(in, same), 0);
        for (int finder = 0; finder < 12; finder += 11) {
            OughtKnown alone = new OughtKnown();
            for (int i = 0; i < 12; i++) {
                alone.person(i == finder ? 3 : 5);
            }
            alone.field(1);
            Edge.written(alone, Edge.SALE, 1, 2, 10, 3, 4);
            due("found by " + finder + " alone", alone.wild(0), 0);
            Edge.written(alone, Edge.SALE, 1, 2, 10, 4, 4);
            due("found by none", alone.wild(0), Edge.bits(1));
        }
        Edge.says("24: UNKNOWN: field");
        int[] wrong = {Edge.LEAST, -1, 1, 6, Edge.MOST};
        for (int field : wrong) {
            Edge.refused("wild(" + field + ")", Edge.UNKNOWN, z, w -> w.wild(field));
        }
    }

    private static void lost() {
        Edge.says("LOST: DEEDS that PASS and are PAID (with \"g\" all are), from a GIVER, not used; over all FIELDS");
        OughtKnown x = Edge.land(12, 2);
        int d = Edge.law(x, "dx"), g = Edge.law(x, "dxg");
        due("no deeds", x.lost(d, 0), 0);
        for (int kind = 0; kind < 5; kind++) {
            x.deed(kind, 0, 0, 1, 5);
        }
        due("the first is used", x.lost(d, 0), Edge.bits(Edge.SALE, Edge.DARK));
        due("with g", x.lost(g, 0), Edge.bits(Edge.SALE, Edge.GIFT, Edge.DARK));
        due("of one who gave nothing", x.lost(d, 11), 0);
        for (int kind = 0; kind < 5; kind++) {
            x.deed(kind, 1, 11, 1, 5);
        }
        due("of one who never owned it", x.lost(d, 11), Edge.bits(6, 9));
        due("with g all that pass", x.lost(g, 11), Edge.bits(5, 6, 7, 9));
        x.deed(Edge.SALE, 1, 0, 2, 5);
        due("used on the other field", x.lost(d, 0), Edge.bits(1, 4));
        x.deed(Edge.SALE, 1, 0, 2, 6);
        due("not used on the other field", x.lost(d, 0), Edge.bits(1, 4, 11));
        OughtKnown y = Edge.land(3, 1);
        for (int i = 0; i < 16; i++) {
            y.deed(Edge.SALE, 0, 1, 2, 5);
        }
        due("all sixteen", y.lost(Edge.law(y, "nx"), 1), 65535);
        y.field(1);
        due("on a field of his own they are not", y.lost(0, 1), 65535);
        Edge.says("25: UNKNOWN: law, person");
        int[] wrong = {Edge.LEAST, -1, 3, Edge.MOST};
        for (int number : wrong) {
            Edge.refused("law " + number, Edge.UNKNOWN, y, z -> z.lost(number, 1));
            Edge.refused("person " + number, Edge.UNKNOWN, y, z -> z.lost(0, number));
        }
    }

    private static void safe() {
        Edge.says("SAFE FIELDS: of which neither an entry nor a knowing HANGS");
        OughtKnown x = Edge.land(4, 0);
        int e = Edge.law(x, "ex"), n = Edge.law(x, "nx"), d = Edge.law(x, "dx"), b = Edge.law(x, "bx");
        due("no fields", x.safe(d), 0);
        for (int field = 0; field < 6; field++) {
            x.field(0);
            due("up to field " + field, x.safe(d), (2 << field) - 1);
        }
        Edge.entered(x, Edge.SALE, 0, 0, 1, 10, 20);
        Edge.entered(x, Edge.SALE, 0, 0, 2, 11, 21);
        x.deed(Edge.SALE, 5, 0, 1, 10);
        x.deed(Edge.SALE, 5, 0, 2, 11);
        x.deed(Edge.SALE, 3, 0, 1, 10);
        Edge.entered(x, Edge.SALE, 3, 0, 2, 11, 11);
        due("e: on entries the first hangs, and the fourth", x.safe(e), 63 & ~Edge.bits(0, 3));
        due("n: on knowings all three", x.safe(n), 63 & ~Edge.bits(0, 3, 5));
        due("b: on both the fourth, on an entry the first", x.safe(b), 63 & ~Edge.bits(0, 3));
        due("d: none", x.safe(d), 63);
        Edge.says("26: SAFE FIELDS by a law, as bits. UNKNOWN");
        int[] wrong = {Edge.LEAST, -1, 4, Edge.MOST};
        for (int law : wrong) {
            Edge.refused("safe(" + law + ")", Edge.UNKNOWN, x, y -> y.safe(law));
        }
    }

    public static void main(String[] args) {
        nothingUsed();
        allUsed();
        eachKindPasses();
        whoseRefuses();
        debtsOfOwners();
        debtsBeaten();
        ranks();
        rings();
        manyRings();
        ringsRefuse();
        moves();
        nothingHangs();
        hangsByEntry();
        hangsByKnowing();
        hangsRefuses();
        wild();
        lost();
        safe();
        Edge.end();
    }
}
