/**
 * "Refusals, of several the first as told by each call .. they change nothing": every call, with chosen right and wrong
 * arguments in all combinations, on a new object, on one with something in it, and on a full one.
 */
public final class RefusalsTest {
    private static final int NEW = 0, SOME = 1, WHOLE = 2, LANDS = 3;
    private static final int[] PEOPLE = {0, 3, 12}, FIELDS = {0, 2, 6}, DEEDS = {0, 4, 16}, LAWS = {0, 2, 4};
    private static final int[][] DEED_FIELD = {{}, {0, 0, 1, 0}, {0, 1, 2, 3, 4, 5, 0, 1, 2, 3, 4, 5, 0, 1, 2, 3}};
    private static final int[][] DEED_DAY = {{}, {10, 20, 999, 15}, {0, 1, 2, 3, 4, 5, 6, 7, 8, 9, 10, 11, 12, 13, 14, 999}};
    private static final boolean[][] IS_ENTERED = {{}, {true, false, false, true},
        {true, false, true, false, true, false, true, false, true, false, true, false, true, false, true, false}};
    private static final int[] KINDS = {-1, 0, 4, 5};
    private static final int[] DAYS = {Edge.LEAST, -1, 0, 999, 1000, Edge.MOST};
    private static final int[] SETS = {Edge.LEAST, -1, 0, 1, 3, 6, 9, 11, 65, 15, 16, 65535, 65536, Edge.MOST};
    private static final int[] PLACES = {Edge.LEAST, -1, 0, 1, 2, 3, 9, 10, 25, 26, Edge.MOST};

    private static OughtKnown make(int land) {
        OughtKnown x = new OughtKnown();
        for (int i = 0; i < PEOPLE[land]; i++) {
            x.person(i % 5);
        }
        for (int i = 0; i < FIELDS[land]; i++) {
            x.field(i);
        }
        for (int i = 0; i < DEEDS[land]; i++) {
            x.deed(i % 5, DEED_FIELD[land][i], i % 3, (i + 1) % 3, DEED_DAY[land][i]);
            if (i == 2) {
                // The image is of less than there is, so that one which is lost or kept anew is seen.
                x.lives(1, 2, 5);
                x.image();
            }
            if (IS_ENTERED[land][i]) {
                x.enter(i, 999, -1, i % 10);
                x.leaf(i, i % 3 == 0);
            }
            x.knew(i, 1 << i >> 1);
        }
        String[] texts = {"nc", "exl", "bagh7", "dalg"};
        for (int i = 0; i < LAWS[land]; i++) {
            Edge.law(x, texts[i]);
        }
        if (land != NEW) {
            Edge.write(x, land == SOME ? "exh" : "bxlgh123bxlgh123");
            x.lives(0, 1, 7);
        }
        return x;
    }

    private static final class Rule {
        final boolean broken;
        final int refusal;

        Rule(boolean broken, int refusal) {
            this.broken = broken;
            this.refusal = refusal;
        }
    }

    private static Rule unknown(boolean broken) {
        return new Rule(broken, Edge.UNKNOWN);
    }

    private static Rule outside(boolean broken) {
        return new Rule(broken, Edge.OUTSIDE);
    }

    private static Rule state(boolean broken) {
        return new Rule(broken, Edge.STATE);
    }

    private static Rule full(boolean broken) {
        return new Rule(broken, Edge.FULL);
    }

    /** The first rule that is broken tells the refusal; with none the call is taken. A call that only asks never changes a thing. */
    private static void holds(String what, int land, boolean asks, Edge.Call call, Rule... inOrder) {
        int want = 0;
        for (int i = inOrder.length - 1; i >= 0; i--) {
            want = inOrder[i].broken ? inOrder[i].refusal : want;
        }
        String when = what + " on land " + land;
        OughtKnown x = make(land);
        long before = x.digest();
        long got = call.on(x);
        if (want != 0) {
            Edge.due(when, got, want);
        } else {
            Edge.due(when + " is not refused, but answered " + got, got >= Edge.FULL && got <= Edge.UNKNOWN ? 1 : 0, 0);
        }
        if (want != 0 || asks) {
            Edge.due(when + ", digest()", x.digest(), before);
            OughtKnown twin = make(land);
            Edge.due(when + ", then restore()", x.restore(), twin.restore());
            Edge.due(when + ", then restore(), digest()", x.digest(), twin.digest());
        }
    }

    private static boolean not(int number, int count) {
        return number < 0 || number >= count;
    }

    private static boolean notWithin(int number, int least, int most) {
        return number < least || number > most;
    }

    private static int[] around(int count) {
        return new int[] {Edge.LEAST, -2, -1, 0, Math.max(count - 1, 0), count, Edge.MOST};
    }

    private static void madeThings(int land) {
        int[] names = {Edge.LEAST, -1, 0, 9, 10, Edge.MOST};
        Edge.says("2: OUTSIDE: name; FULL");
        for (int name : names) {
            holds("person(" + name + ")", land, false, x -> x.person(name), outside(notWithin(name, 0, 9)), full(land == WHOLE));
        }
        Edge.says("3: UNKNOWN: root; FULL");
        for (int root : around(PEOPLE[land])) {
            holds("field(" + root + ")", land, false, x -> x.field(root), unknown(not(root, PEOPLE[land])), full(land == WHOLE));
        }
        Edge.says("4: OUTSIDE: kind; UNKNOWN: field, from, to, or they are the same; OUTSIDE: day; FULL");
        int[] persons = {-1, 0, PEOPLE[land] - 1, PEOPLE[land]};
        int[] fields = {-1, 0, FIELDS[land] - 1, FIELDS[land]};
        int[] days = {-1, 0, 999, 1000};
        for (int kind : KINDS) {
            for (int field : fields) {
                for (int from : persons) {
                    for (int to : persons) {
                        for (int day : days) {
                            holds("deed(" + kind + ", " + field + ", " + from + ", " + to + ", " + day + ")", land, false,
                                x -> x.deed(kind, field, from, to, day), outside(notWithin(kind, 0, 4)), unknown(not(field, FIELDS[land])),
                                unknown(not(from, PEOPLE[land])), unknown(not(to, PEOPLE[land])), unknown(from == to),
                                outside(notWithin(day, 0, 999)), full(land == WHOLE));
                        }
                    }
                }
            }
        }
    }

    private static void toldOfDeeds(int land) {
        for (int deed = -2; deed <= DEEDS[land] + 1; deed++) {
            int d = deed;
            Rule there = unknown(not(d, DEEDS[land]));
            Edge.says("5: UNKNOWN; OUTSIDE");
            for (int kind : around(5)) {
                holds("as(" + d + ", " + kind + ")", land, true, x -> x.as(d, kind), there, outside(notWithin(kind, 0, 4)));
            }
            Edge.says("6: UNKNOWN; OUTSIDE");
            for (int what : around(10)) {
                holds("about(" + d + ", " + what + ")", land, true, x -> x.about(d, what), there, outside(notWithin(what, 0, 9)));
            }
            Edge.says("8: UNKNOWN; STATE: it is not entered");
            boolean entered = !not(d, DEEDS[land]) && IS_ENTERED[land][d];
            holds("leaf(" + d + ", true)", land, false, x -> x.leaf(d, true), there, state(!entered));
            holds("leaf(" + d + ", false)", land, false, x -> x.leaf(d, false), there, state(!entered));
            Edge.says("9: UNKNOWN; OUTSIDE");
            for (int set : SETS) {
                holds("knew(" + d + ", " + set + ")", land, false, x -> x.knew(d, set), there, outside(notWithin(set, 0, 65535)));
            }
        }
    }

    private static void entries(int land) {
        Edge.says("7: UNKNOWN: deed; OUTSIDE: day, names; STATE: it is entered");
        int[] deeds = {Edge.LEAST, -1, 0, 1, 2, 3, 4, 14, 15, 16, Edge.MOST};
        int[] names = {Edge.LEAST, -2, -1, 0, 9, 10};
        for (int deed : deeds) {
            boolean there = !not(deed, DEEDS[land]);
            int own = there ? DEED_DAY[land][deed] : 10;
            int[] days = {own - 1, own, 999, 1000};
            for (int day : days) {
                for (int giver : names) {
                    for (int taker : names) {
                        holds("enter(" + deed + ", " + day + ", " + giver + ", " + taker + ")", land, false,
                            x -> x.enter(deed, day, giver, taker), unknown(!there), outside(notWithin(day, own, 999)),
                            outside(notWithin(giver, -1, 9)), outside(notWithin(taker, -1, 9)), state(there && IS_ENTERED[land][deed]));
                    }
                }
            }
        }
    }

    private static void living(int land) {
        Edge.says("10: UNKNOWN: field, person; OUTSIDE: day (0 to 999)");
        for (int field : around(FIELDS[land])) {
            for (int person : around(PEOPLE[land])) {
                for (int day : DAYS) {
                    holds("lives(" + field + ", " + person + ", " + day + ")", land, false, x -> x.lives(field, person, day),
                        unknown(not(field, FIELDS[land])), unknown(person != -1 && not(person, PEOPLE[land])), outside(notWithin(day, 0, 999)));
                }
            }
        }
    }

    private static void pages(int land) {
        Edge.says("11: OUTSIDE: a byte above 126, or one behind a 0 that is not 0; FULL: above 16");
        long[] wrong = {127, 255, 0x6100, 0x610061, Long.MIN_VALUE, -1, 0x7f61616161616161L};
        for (long w : wrong) {
            holds("letters(" + w + ")", land, false, x -> x.letters(w), outside(true), full(land == WHOLE));
        }
        long[] right = {1, 126, 0x616161, 0x6161616161616161L};
        for (long w : right) {
            holds("letters(" + w + ")", land, false, x -> x.letters(w), full(land == WHOLE));
        }
        holds("letters(0)", land, true, x -> x.letters(0));
        holds("fault()", land, true, x -> x.fault());
        Edge.says("14: STATE: it is none; FULL");
        holds("law()", land, false, x -> x.law(), state(true), full(land == WHOLE));
        OughtKnown x = make(land);
        Edge.write(x, "ex");
        if (land == WHOLE) {
            Edge.refused("law() of ex", Edge.FULL, x, y -> y.law());
            Edge.due("the page stays", x.blank(), 2);
        } else {
            Edge.due("law() of ex", x.law(), LAWS[land]);
        }
    }

    private static void searches(int land) {
        Edge.says("15: UNKNOWN: field, person; OUTSIDE: day (0 to 999), what");
        int[] whats = {Edge.LEAST, -1, 0, 2, 3, Edge.MOST};
        for (int field : around(FIELDS[land])) {
            for (int person : around(PEOPLE[land])) {
                for (int day : DAYS) {
                    for (int what : whats) {
                        holds("search(" + field + ", " + person + ", " + day + ", " + what + ")", land, true,
                            x -> x.search(field, person, day, what), unknown(not(field, FIELDS[land])), unknown(not(person, PEOPLE[land])),
                            outside(notWithin(day, 0, 999)), outside(notWithin(what, 0, 2)));
                    }
                }
            }
        }
    }

    private static boolean unlike(int land, int set) {
        int fields = 0;
        for (int i = 0; i < DEEDS[land]; i++) {
            fields |= (set >> i & 1) != 0 ? 1 << DEED_FIELD[land][i] : 0;
        }
        return Integer.bitCount(fields) > 1;
    }

    private static void prevailings(int land) {
        for (int law : around(LAWS[land])) {
            Rule known = unknown(not(law, LAWS[land]));
            Edge.says("16: UNKNOWN: law, deed");
            for (int deed : around(DEEDS[land])) {
                holds("held(" + law + ", " + deed + ")", land, true, x -> x.held(law, deed), known, unknown(not(deed, DEEDS[land])));
            }
            Edge.says("17: UNKNOWN: law, a, b, or they are the same, or of unlike FIELDS");
            int[] deeds = {Edge.LEAST, -1, 0, 1, 2, 3, 4, 6, 15, 16, Edge.MOST};
            for (int a : deeds) {
                for (int b : deeds) {
                    boolean there = !not(a, DEEDS[land]) && !not(b, DEEDS[land]);
                    holds("prevails(" + law + ", " + a + ", " + b + ")", land, true, x -> x.prevails(law, a, b), known, unknown(!there),
                        unknown(a == b), unknown(there && DEED_FIELD[land][a] != DEED_FIELD[land][b]));
                }
            }
            Edge.says("18: UNKNOWN: law; OUTSIDE: set (0 to 65535); UNKNOWN: a DEED of it; STATE: they are of unlike FIELDS");
            for (int set : SETS) {
                holds("first(" + law + ", " + set + ")", land, true, x -> x.first(law, set), known, outside(notWithin(set, 0, 65535)),
                    unknown(set >> DEEDS[land] != 0), state(unlike(land, set)));
            }
        }
    }

    private static void titles(int land) {
        for (int law : around(LAWS[land])) {
            Rule known = unknown(not(law, LAWS[land]));
            for (int field : around(FIELDS[land])) {
                Rule there = unknown(not(field, FIELDS[land]));
                Edge.says("19, 20, 23: UNKNOWN: law, field; OUTSIDE: what");
                for (int what : PLACES) {
                    holds("whose(" + law + ", " + field + ", " + what + ")", land, true, x -> x.whose(law, field, what), known, there,
                        outside(what != 0 && what != 1 && notWithin(what, 10, 25)));
                    holds("debts(" + law + ", " + field + ", " + what + ")", land, true, x -> x.debts(law, field, what), known, there,
                        outside(what != 0 && notWithin(what, 10, 25)));
                    holds("hangs(" + law + ", " + field + ", " + what + ")", land, true, x -> x.hangs(law, field, what), known, there,
                        outside(notWithin(what, 0, 2)));
                }
                Edge.says("21: UNKNOWN");
                holds("rings(" + law + ", " + field + ")", land, true, x -> x.rings(law, field), known, there);
            }
            Edge.says("22: UNKNOWN: laws");
            for (int other : around(LAWS[land])) {
                holds("moves(" + law + ", " + other + ")", land, true, x -> x.moves(law, other), known, unknown(not(other, LAWS[land])));
            }
            Edge.says("25: UNKNOWN: law, person");
            for (int person : around(PEOPLE[land])) {
                holds("lost(" + law + ", " + person + ")", land, true, x -> x.lost(law, person), known, unknown(not(person, PEOPLE[land])));
            }
            Edge.says("26: UNKNOWN");
            holds("safe(" + law + ")", land, true, x -> x.safe(law), known);
        }
        Edge.says("24: UNKNOWN: field");
        for (int field : around(FIELDS[land])) {
            holds("wild(" + field + ")", land, true, x -> x.wild(field), unknown(not(field, FIELDS[land])));
        }
    }

    private static void isAsTold(int land) {
        Edge.says("the lands of this test are as their rows tell");
        OughtKnown x = make(land);
        Edge.due("people", x.count(0), PEOPLE[land]);
        Edge.due("fields", x.count(1), FIELDS[land]);
        Edge.due("deeds", x.count(2), DEEDS[land]);
        Edge.due("laws", x.count(3), LAWS[land]);
        for (int i = 0; i < DEEDS[land]; i++) {
            Edge.due("field of " + i, x.about(i, 1), DEED_FIELD[land][i]);
            Edge.due("day of " + i, x.about(i, 4), DEED_DAY[land][i]);
            Edge.due("whether " + i + " is entered", x.about(i, 5), IS_ENTERED[land][i] ? 999 : -1);
        }
    }

    private static void telling(int land) {
        Edge.says("28: STATE: none was kept");
        holds("restore()", land, false, x -> x.restore(), state(land == NEW));
        Edge.says("29: OUTSIDE");
        for (int what : around(6)) {
            holds("count(" + what + ")", land, true, x -> x.count(what), outside(notWithin(what, 0, 5)));
        }
    }

    public static void main(String[] args) {
        for (int land = 0; land < LANDS; land++) {
            isAsTold(land);
            madeThings(land);
            toldOfDeeds(land);
            entries(land);
            living(land);
            pages(land);
            searches(land);
            prevailings(land);
            titles(land);
            telling(land);
        }
        Edge.end();
    }
}
