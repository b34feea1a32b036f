import java.math.BigInteger;
import java.util.ArrayList;
import java.util.List;

/** The edges that promises 27 to 30 name: images, counts, the digest. */
public final class EdgeTellingTest {
    private static void due(String what, long got, long want) {
        Edge.due(what, got, want);
    }

    private static void noImage() {
        Edge.says("28: STATE: none was kept");
        OughtKnown x = new OughtKnown();
        Edge.refused("a new object", Edge.STATE, x, y -> y.restore());
        OughtKnown land = Edge.land(3, 1);
        land.lives(0, 1, 7);
        Edge.entered(land, Edge.SALE, 0, 0, 1, 5, 6);
        Edge.refused("with a deed", Edge.STATE, land, y -> y.restore());
        Edge.refused("again", Edge.STATE, land, y -> y.restore());
        due("an image of a new object", x.image(), 0);
        due("it is kept", x.restore(), 0);
        due("and kept", x.restore(), 0);
        due("another object has none", new OughtKnown().restore(), Edge.STATE);
    }

    private static void howMany() {
        Edge.says("27: An IMAGE is kept (one; the latest): how many DEEDS");
        OughtKnown x = Edge.land(3, 1);
        for (int deeds = 0; deeds <= 16; deeds++) {
            due("an image of " + deeds, x.image(), deeds);
            long then = x.digest();
            if (deeds < 16) {
                due("one more deed", x.deed(Edge.SALE, 0, 0, 1, deeds), deeds);
                due("it goes back", x.restore(), deeds);
                due("to what was", x.digest(), then);
                due("that one is gone", x.about(deeds, 0), Edge.UNKNOWN);
                due("its number is free", x.deed(Edge.GIFT, 0, 0, 2, deeds), deeds);
            }
        }
        Edge.refused("sixteen stay full", Edge.FULL, x, y -> y.deed(0, 0, 0, 1, 0));
    }

    private static void allThatIsTold() {
        Edge.says("An IMAGE keeps DEEDS with all that is told of them, and who LIVES where");
        OughtKnown x = Edge.land(5, 2);
        x.deed(Edge.DARK, 1, 4, 3, 7);
        x.deed(Edge.SALE, 0, 0, 1, 9);
        x.enter(0, 8, 6, 5);
        x.leaf(0, true);
        x.knew(0, 65535);
        x.lives(1, 4, 999);
        due("two deeds", x.image(), 2);
        long then = x.digest();
        x.leaf(0, false);
        x.knew(0, 1);
        x.enter(1, 9, 4, 4);
        x.leaf(1, true);
        x.knew(1, 2);
        x.lives(1, 3, 1);
        x.lives(0, 2, 2);
        due("it goes on from there", x.restore(), 2);
        due("all is as it was", x.digest(), then);
        int[] dark = {Edge.DARK, 1, 4, 3, 7, 8, 6, 5, 1, 65535};
        int[] sale = {Edge.SALE, 0, 0, 1, 9, -1, -1, -1, 0, 0};
        for (int what = 0; what < 10; what++) {
            due("about(0, " + what + ")", x.about(0, what), dark[what]);
            due("about(1, " + what + ")", x.about(1, what), sale[what]);
        }
        due("it can be entered again", x.enter(1, 10, -1, -1), 1);
        Edge.refused("the first is entered still", Edge.STATE, x, y -> y.enter(0, 8, -1, -1));
        due("its leaf is lost still", x.leaf(0, false), 1);
        due("nobody lives on the first field", x.lives(0, 1, 3), -1);
        due("and on the second who did", x.lives(1, -1, 0), 4);
        due("once more", x.restore(), 2);
        due("the image was not touched", x.digest(), then);
    }

    private static void aNumberThatIsFreeAgain() {
        Edge.says("4: A DEED, not entered: of a number that a restore set free");
        OughtKnown x = Edge.land(5, 2);
        x.image();
        x.deed(Edge.DARK, 1, 4, 3, 7);
        x.enter(0, 8, 6, 5);
        x.leaf(0, true);
        x.knew(0, 65535);
        x.restore();
        due("the number is free", x.deed(Edge.SALE, 0, 0, 1, 9), 0);
        int[] sale = {Edge.SALE, 0, 0, 1, 9, -1, -1, -1, 0, 0};
        for (int what = 0; what < 10; what++) {
            due("about(0, " + what + ")", x.about(0, what), sale[what]);
        }
    }

    private static void theLatest() {
        Edge.says("27: (one; the latest): a second IMAGE");
        OughtKnown x = Edge.land(3, 1);
        x.deed(Edge.SALE, 0, 0, 1, 5);
        x.lives(0, 1, 5);
        due("the first image", x.image(), 1);
        x.deed(Edge.SALE, 0, 0, 2, 6);
        x.lives(0, 2, 6);
        long second = x.digest();
        due("the second", x.image(), 2);
        x.deed(Edge.SALE, 0, 1, 2, 7);
        x.lives(0, -1, 7);
        due("the latest", x.restore(), 2);
        due("as it was then", x.digest(), second);
        OughtKnown y = Edge.land(3, 1);
        y.deed(Edge.SALE, 0, 0, 1, 5);
        y.enter(0, 5, -1, -1);
        y.image();
        y.restore();
        y.leaf(0, true);
        y.deed(Edge.SALE, 0, 0, 2, 6);
        due("an image behind a restore", y.image(), 2);
        y.leaf(0, false);
        due("it is the latest", y.restore(), 2);
        due("with its leaf", y.about(0, 8), 1);
        OughtKnown z = Edge.land(3, 1);
        due("an empty one", z.image(), 0);
        z.deed(Edge.SALE, 0, 0, 1, 5);
        z.image();
        due("a fuller one", z.restore(), 1);
    }

    private static void whatStays() {
        Edge.says("28: (FIELDS that came since: nobody lives there)");
        OughtKnown x = Edge.land(2, 1);
        x.lives(0, 1, 4);
        Edge.law(x, "dx");
        Edge.write(x, "ex");
        x.image();
        x.person(8);
        for (int field = 1; field < 6; field++) {
            due("a field since", x.field(2), field);
            long empty = x.digest();
            x.lives(field, field % 3, 900 + field);
            x.deed(Edge.SALE, field, 2, 0, field);
            due("it goes back", x.restore(), 0);
            due("nobody lives there, from no day", x.digest(), empty);
            due("nobody did", x.lives(field, 0, 1), -1);
            x.restore();
        }
        due("the first one's dweller", x.lives(0, -1, 0), 1);
        Edge.says("28: an IMAGE keeps DEEDS and who LIVES where; PEOPLE, FIELDS, LAWS, THE PAGE go on");
        x.law();
        Edge.write(x, "nxlg");
        x.restore();
        int[] want = {3, 6, 0, 2, 4, 0};
        for (int what = 0; what < 6; what++) {
            due("count(" + what + ")", x.count(what), want[what]);
        }
        due("the page is a law", x.law(), 2);
        due("the root of a field since", x.whose(2, 5, 0), 2);
        Edge.refused("no seventh field", Edge.FULL, x, y -> y.field(0));
    }

    private static void counts() {
        Edge.says("29: How many: 0 PEOPLE, 1 FIELDS, 2 DEEDS, 3 LAWS, 4 letters of THE PAGE, 5 DEEDS that are entered. OUTSIDE");
        OughtKnown x = new OughtKnown();
        int[] outside = {Edge.LEAST, -1, 6, 7, Edge.MOST};
        for (int what : outside) {
            Edge.refused("count(" + what + ") of a new object", Edge.OUTSIDE, x, y -> y.count(what));
        }
        OughtKnown full = full();
        int[] want = {12, 6, 16, 4, 16, 11};
        for (int what = 0; what < 6; what++) {
            due("a new object, count(" + what + ")", x.count(what), 0);
            due("a full one, count(" + what + ")", full.count(what), want[what]);
        }
        for (int what : outside) {
            Edge.refused("count(" + what + ") of a full one", Edge.OUTSIDE, full, y -> y.count(what));
        }
        OughtKnown one = Edge.land(2, 1);
        one.deed(Edge.DARK, 0, 0, 1, 0);
        due("not entered", one.count(5), 0);
        one.enter(0, 0, -1, -1);
        due("entered, a dark one too", one.count(5), 1);
        one.leaf(0, true);
        due("entered, though its leaf is lost", one.count(5), 1);
    }

    /** All that may be full is full: 12 PEOPLE, 6 FIELDS, 16 DEEDS, 4 LAWS, 16 letters; 11 DEEDS are entered. */
    private static OughtKnown full() {
        OughtKnown x = new OughtKnown();
        for (int i = 0; i < 12; i++) {
            x.person(9 - i % 10);
        }
        for (int i = 0; i < 6; i++) {
            x.field(11 - i);
            x.lives(i, i == 4 ? -1 : 2 * i, 100 * i + 99);
        }
        for (int i = 0; i < 16; i++) {
            x.deed(i % 5, i < 11 ? 0 : i - 10, i < 11 ? 11 - i % 2 : 21 - i, (i + 1) % 9, 999 - 30 * i);
            x.knew(i, 65535 >> i % 7);
            if (i % 3 != 2) {
                x.enter(i, 999 - 10 * i, i % 4 - 1, 9 - i % 5);
                x.leaf(i, i % 4 == 1);
            }
        }
        String[] laws = {"ncl", "bagh300", "exh0", "dalg"};
        for (String law : laws) {
            Edge.law(x, law);
        }
        Edge.write(x, (char) 1 + "~}|{zyxwvutsrq" + (char) 126);
        return x;
    }

    /** The numbers that the document lists, by what the other calls tell; the last of each PERSON and FIELD as made. */
    private static long foretold(OughtKnown x, int[] names, int[][] fields, String page) {
        List<Long> all = new ArrayList<>();
        for (int name : names) {
            all.add((long) name);
        }
        for (int[] field : fields) {
            for (int number : field) {
                all.add((long) number);
            }
        }
        for (int deed = 0; deed < x.count(2); deed++) {
            for (int what = 0; what <= 9; what++) {
                all.add((long) x.about(deed, what));
            }
        }
        for (int law = 0; law < x.count(3); law++) {
            for (int deed = 0; deed < x.count(2); deed++) {
                all.add((long) x.held(law, deed));
            }
            for (int field = 0; field < fields.length; field++) {
                all.add((long) x.whose(law, field, 0));
                all.add((long) x.whose(law, field, 1));
                all.add((long) x.debts(law, field, 0));
            }
        }
        for (char sign : page.toCharArray()) {
            all.add((long) sign);
        }
        for (int what = 0; what <= 5; what++) {
            all.add((long) x.count(what));
        }
        BigInteger h = BigInteger.valueOf(367);
        for (long number : all) {
            h = h.multiply(BigInteger.valueOf(31)).add(BigInteger.valueOf(number));
        }
        return h.longValue();
    }

    private static void digests() {
        Edge.says("30: h is 367, then for each of these numbers, in order, 31 times h, and it: of a new object");
        OughtKnown x = new OughtKnown();
        due("367 and six noughts", x.digest(), 325713850927L);
        due("foretold", x.digest(), foretold(x, new int[0], new int[0][], ""));
        Edge.says("30: (as longs, wrapping): of a full one");
        OughtKnown full = full();
        int[] names = {9, 8, 7, 6, 5, 4, 3, 2, 1, 0, 9, 8};
        int[][] fields = {{11, 0, 99}, {10, 2, 199}, {9, 4, 299}, {8, 6, 399}, {7, -1, 0}, {6, 10, 599}};
        String page = (char) 1 + "~}|{zyxwvutsrq" + (char) 126;
        due("foretold", full.digest(), foretold(full, names, fields, page));
        due("the same calls, the same digest", full().digest(), full.digest());
        Edge.says("30: letters of THE PAGE");
        full.blank();
        due("a blank page", full.digest(), foretold(full, names, fields, ""));
        full.letters(126);
        due("one letter", full.digest(), foretold(full, names, fields, "~"));
        Edge.says("30: NONE counts as -1, wrapping below 0 too");
        OughtKnown one = new OughtKnown();
        one.person(0);
        one.field(0);
        due("nobody lives there", one.digest(), foretold(one, new int[] {0}, new int[][] {{0, -1, 0}}, ""));
    }

    /** One change that about() does not tell twice must move the digest each time. */
    private static void eachNumberIsInIt() {
        Edge.says("30: of each PERSON the NAME; of each FIELD ROOT, who LIVES there from which DAY; of each DEED .. of each LAW ..");
        List<Long> seen = new ArrayList<>();
        OughtKnown x = new OughtKnown();
        seen.add(x.digest());
        Edge.Call[] changes = {y -> y.person(1), y -> y.person(0), y -> y.person(0), y -> y.field(1), y -> y.field(0), y -> y.lives(1, 1, 0),
            y -> y.lives(1, 1, 1), y -> y.lives(1, 2, 1), y -> y.deed(1, 0, 1, 0, 0), y -> y.deed(3, 0, 1, 2, 0), y -> y.enter(0, 0, 5, 5),
            y -> y.leaf(0, true), y -> y.knew(1, 1), y -> y.letters('d'), y -> y.letters('x'), y -> y.law(), y -> y.letters('n' | 'a' << 8),
            y -> y.law(), y -> y.leaf(0, false), y -> y.lives(1, -1, 0)};
        for (int i = 0; i < changes.length; i++) {
            due("change " + i + " is taken", changes[i].on(x) <= Edge.UNKNOWN ? 1 : 0, 0);
            long now = x.digest();
            due("change " + i + " moves the digest", seen.contains(now) ? 1 : 0, 0);
            due("asking does not", x.digest(), now);
            seen.add(now);
        }
    }

    public static void main(String[] args) {
        noImage();
        howMany();
        allThatIsTold();
        aNumberThatIsFreeAgain();
        theLatest();
        whatStays();
        counts();
        digests();
        eachNumberIsInIt();
        Edge.end();
    }
}
