/** The edges that promises 11 to 14 name: THE PAGE, its letters, and what of it is a LAW. */
public final class EdgeLawsTest {
    private static final String[] ALL_ORDERS = {"d", "e", "n", "b"};
    private static final String[] ALL_KNOWINGS = {"a", "c", "x"};

    private static void due(String what, long got, long want) {
        Edge.due(what, got, want);
    }

    private static void lowestByteFirst() {
        Edge.says("11: told by their codes in the bytes of w, the lowest byte first");
        OughtKnown x = Edge.land(1, 1);
        due("'e', then 'x'", x.letters('e' | (long) 'x' << 8), 2);
        due("it is a law", x.law(), 0);
        due("'x', then 'e'", x.letters('x' | (long) 'e' << 8), 2);
        due("the fault is the first", x.fault(), 0);
        Edge.refused("it is no law", Edge.STATE, x, y -> y.law());
        due("the page had two", x.blank(), 2);
        due("behind the page: 'n'", x.letters('n'), 1);
        due("then 'c'", x.letters('c'), 2);
        due("then 'l', 'g'", x.letters('l' | 'g' << 8), 4);
        due("no fault", x.fault(), 4);
        due("it is the next law", x.law(), 1);
    }

    private static void upToEight() {
        Edge.says("11: Letters come behind THE PAGE, up to eight, until a byte that is 0");
        OughtKnown x = new OughtKnown();
        for (int i = 1; i <= 8; i++) {
            x.blank();
            due(i + " letters", x.letters(Edge.word("bclgh012".substring(0, i))), i);
        }
        due("the eighth is there, the last digit of a law", x.fault(), 8);
        due("all eight are a law", x.law(), 0);
        due("none at all", x.letters(0), 0);
        x.letters(Edge.word("abc"));
        due("none behind three", x.letters(0), 3);
    }

    private static void codes() {
        Edge.says("11: OUTSIDE: a byte above 126");
        for (int place = 0; place < 8; place++) {
            OughtKnown x = new OughtKnown();
            x.letters('q');
            long ahead = 0;
            for (int i = 0; i < place; i++) {
                ahead |= 1L << 8 * i;
            }
            int[] above = {127, 128, 129, 200, 254, 255};
            for (int code : above) {
                long w = ahead | (long) code << 8 * place;
                Edge.refused("code " + code + " at place " + place, Edge.OUTSIDE, x, y -> y.letters(w));
            }
            due("code 126 at place " + place, x.letters(ahead | 126L << 8 * place), 2 + place);
        }
        OughtKnown all = new OughtKnown();
        for (int code = 1; code <= 126; code++) {
            all.blank();
            due("code " + code, all.letters(code), 1);
        }
    }

    private static void behindZero() {
        Edge.says("11: OUTSIDE: .. or one behind a 0 that is not 0");
        OughtKnown x = new OughtKnown();
        x.letters('q');
        for (int zero = 0; zero < 7; zero++) {
            for (int other = zero + 1; other < 8; other++) {
                long w = 0;
                for (int i = 0; i < zero; i++) {
                    w |= 'a' + 0L << 8 * i;
                }
                long wrong = w | 1L << 8 * other;
                Edge.refused("0 at " + zero + ", 1 at " + other, Edge.OUTSIDE, x, y -> y.letters(wrong));
            }
        }
        Edge.refused("0 at 0, the rest as high as can be", Edge.OUTSIDE, x, y -> y.letters(-256L));
        Edge.refused("all ones", Edge.OUTSIDE, x, y -> y.letters(-1L));
        Edge.refused("the least", Edge.OUTSIDE, x, y -> y.letters(Long.MIN_VALUE));
        Edge.refused("the most", Edge.OUTSIDE, x, y -> y.letters(Long.MAX_VALUE));
        due("the page is as it was", x.blank(), 1);
    }

    private static void sixteen() {
        Edge.says("11: FULL: above 16");
        for (int on = 0; on <= 16; on++) {
            for (int more = 0; more <= 8; more++) {
                OughtKnown x = new OughtKnown();
                Edge.write(x, "bclgh012zyxwvuts".substring(0, on));
                String text = "abcdefgh".substring(0, more);
                if (on + more > 16) {
                    Edge.refused(more + " behind " + on, Edge.FULL, x, y -> y.letters(Edge.word(text)));
                } else {
                    due(more + " behind " + on, x.letters(Edge.word(text)), on + more);
                }
            }
        }
        OughtKnown x = new OughtKnown();
        Edge.write(x, "aaaaaaaaaaaaaaaa");
        Edge.refused("a 17th that is outside", Edge.OUTSIDE, x, y -> y.letters(127));
        Edge.refused("a 17th behind a 0", Edge.OUTSIDE, x, y -> y.letters(0x6100));
        due("nothing more", x.letters(0), 16);
    }

    private static void blankPage() {
        Edge.says("12: THE PAGE is empty: how many letters it had");
        OughtKnown x = new OughtKnown();
        due("a new one", x.blank(), 0);
        Edge.write(x, "bclgh012zyxwvuts");
        due("a full one", x.blank(), 16);
        due("it is empty then", x.count(4), 0);
        due("empty again", x.blank(), 0);
        due("its letters are gone", x.fault(), 0);
        due("a letter is the first again", x.letters('d'), 1);
        due("no fault", x.fault(), 1);
    }

    private static void faultOfEachLetter() {
        Edge.says("13: The place of the first letter that no LAW has there, behind those ahead of it");
        String[][] next = {{"", "denb"}, {"d", "acx"}, {"e", "acx"}, {"n", "acx"}, {"b", "acx"}, {"da", "lgh"}, {"dc", "lgh"}, {"dx", "lgh"},
            {"dal", "gh"}, {"dag", "h"}, {"dalg", "h"}, {"dah", "0123456789"}, {"dalh", "0123456789"}, {"dagh", "0123456789"},
            {"dalgh", "0123456789"}, {"dah0", "0123456789"}, {"dah10", "0123456789"}, {"dah000", ""}, {"dalgh999", ""}};
        for (String[] row : next) {
            for (int code = 1; code <= 126; code++) {
                OughtKnown x = new OughtKnown();
                Edge.write(x, row[0] + (char) code);
                int length = row[0].length();
                boolean has = row[1].indexOf(code) >= 0;
                due("code " + code + " behind '" + row[0] + "'", x.fault(), has ? length + 1 : length);
            }
        }
    }

    private static void firstFault() {
        Edge.says("13: the first letter ..; how many letters it has, if there is none");
        String[] pages = {"", "b", "bx", "bxlgh", "bxh", "bxgl", "bxhl", "bxhg", "bxh1l", "bxh1h", "bxlgh9999", "bxlghh", "bxll", "bxgg",
            "qqqqqqqqqqqqqqqq", "bqqqqqqqqqqqqqqq", "bxlgh123qqqqqqqq", "bxlgh12q34567890", "bx bx", "dd", "dxd", "BX", "bX", "bxL"};
        int[] want = {0, 1, 2, 5, 3, 3, 3, 3, 4, 4, 8, 5, 3, 3, 0, 1, 8, 7, 2, 1, 2, 0, 1, 2};
        OughtKnown x = new OughtKnown();
        for (int i = 0; i < pages.length; i++) {
            Edge.write(x, pages[i]);
            due("fault of '" + pages[i] + "'", x.fault(), want[i]);
            due("it leaves the page", x.count(4), pages[i].length());
        }
    }

    private static void lawTexts() {
        Edge.says("LAWS are texts: \"d\", \"e\", \"n\" or \"b\", then \"a\", \"c\" or \"x\", then perhaps \"l\", \"g\", \"h\" and one to three digits");
        String[] rests = {"", "l", "g", "lg", "h0", "h9", "h00", "h99", "h000", "h999", "lh1", "gh12", "lgh123"};
        String[] none = {"gl", "h", "lh", "gh", "lgh", "h1000", "h0000", "h1l", "h1g", "h1h1", "hh1", "ll", "gg", "lgl", "glg", "1", " ", "h ", "h-1", "h1 ",
            "h/", "h:", "q", "lq", "a", "d"};
        for (String order : ALL_ORDERS) {
            for (String knowing : ALL_KNOWINGS) {
                for (String rest : rests) {
                    OughtKnown x = new OughtKnown();
                    due("'" + order + knowing + rest + "' is a law", Edge.law(x, order + knowing + rest), 0);
                    due("the page is empty then", x.count(4), 0);
                }
                OughtKnown x = new OughtKnown();
                for (String rest : none) {
                    Edge.write(x, order + knowing + rest);
                    Edge.refused("'" + order + knowing + rest + "' is none", Edge.STATE, x, y -> y.law());
                }
                due("none of them was kept", x.count(3), 0);
            }
        }
        String[] tooShort = {"", "d", "e", "n", "b", "a", "x", "l", "h", "1", "ad", "xa", "dl", "dg", "dh1", "dd", "aa"};
        OughtKnown x = new OughtKnown();
        for (String text : tooShort) {
            Edge.write(x, text);
            Edge.refused("'" + text + "' is none", Edge.STATE, x, y -> y.law());
            due("the page stays", x.count(4), text.length());
        }
    }

    private static void lawsAtMost() {
        Edge.says("14: its number; THE PAGE is empty then. STATE: it is none; FULL (4 at most)");
        OughtKnown x = Edge.land(1, 1);
        for (int i = 0; i < 4; i++) {
            due("law " + i, Edge.law(x, "da"), i);
        }
        Edge.refused("an empty page", Edge.STATE, x, y -> y.law());
        Edge.write(x, "dah");
        Edge.refused("one that is none", Edge.STATE, x, y -> y.law());
        x.letters('1');
        Edge.refused("the fifth", Edge.FULL, x, y -> y.law());
        Edge.refused("the fifth once more", Edge.FULL, x, y -> y.law());
        due("the page stays", x.blank(), 4);
        due("four laws", x.count(3), 4);
        due("the last is known", x.safe(3), 1);
        due("one behind is not", x.safe(4), Edge.UNKNOWN);
    }

    /** The DEED 0 counts as entered in time if it was entered up to that many days behind its own DAY; else 1 PREVAILS. */
    private static void daysAre(String digits, int days) {
        OughtKnown x = Edge.land(3, 1);
        Edge.entered(x, Edge.SALE, 0, 0, 1, 0, days);
        Edge.entered(x, Edge.SALE, 0, 0, 2, 999, 999);
        due("'" + digits + "': in time", x.prevails(Edge.law(x, "ex" + digits), 0, 1), 0);
        if (days < 999) {
            OughtKnown late = Edge.land(3, 1);
            Edge.entered(late, Edge.SALE, 0, 0, 1, 0, days + 1);
            Edge.entered(late, Edge.SALE, 0, 0, 2, 999, 999);
            due("'" + digits + "': late", late.prevails(Edge.law(late, "ex" + digits), 0, 1), 1);
        }
    }

    private static void digits() {
        Edge.says("\"h\" and one to three digits (0 to 999; without: 999)");
        daysAre("", 999);
        for (int days = 0; days <= 999; days++) {
            if (days < 10) {
                daysAre("h" + days, days);
            }
            if (days < 100) {
                daysAre("h" + days / 10 + days % 10, days);
            }
            daysAre("h" + days / 100 + days / 10 % 10 + days % 10, days);
        }
    }

    private static void partsOfALaw() {
        Edge.says("who comes first, what one is held to know, perhaps \"l\", perhaps \"g\": each law keeps its own");
        OughtKnown x = Edge.land(4, 1);
        int a = Edge.entered(x, Edge.SALE, 0, 3, 1, 10, 10);
        int gift = x.deed(Edge.GIFT, 0, 0, 2, 11);
        x.lives(0, 1, 0);
        int plain = Edge.law(x, "nx"), living = Edge.law(x, "nxl"), gifts = Edge.law(x, "nxg"), both = Edge.law(x, "nxlgh7");
        due("nx: held to know nothing", x.held(plain, gift), 0);
        due("nxl: one who lives there", x.held(living, gift), Edge.bits(a));
        due("nxg: nothing", x.held(gifts, gift), 0);
        due("nxlgh7: one who lives there", x.held(both, gift), Edge.bits(a));
        due("nx: a gift is not paid", x.prevails(plain, a, gift), a);
        due("nxl: nor here", x.prevails(living, a, gift), a);
        due("nxg: here it is", x.prevails(gifts, a, gift), gift);
        due("nxlgh7: it is, but he ought to have known", x.prevails(both, a, gift), a);
        OughtKnown y = Edge.land(4, 1);
        Edge.entered(y, Edge.SALE, 0, 3, 1, 10, 10);
        y.deed(Edge.SALE, 0, 0, 2, 11);
        due("a: all entries", y.held(Edge.law(y, "da"), 1), 1);
        due("c: those of the chain", y.held(Edge.law(y, "dc"), 1), 0);
        due("x: none", y.held(Edge.law(y, "dx"), 1), 0);
    }

    public static void main(String[] args) {
        lowestByteFirst();
        upToEight();
        codes();
        behindZero();
        sixteen();
        blankPage();
        faultOfEachLetter();
        firstFault();
        lawTexts();
        lawsAtMost();
        digits();
        partsOfALaw();
        Edge.end();
    }
}
