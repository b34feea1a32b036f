import java.util.ArrayList;
import java.util.Collections;
import java.util.Comparator;
import java.util.HashSet;
import java.util.List;
import java.util.Set;
import java.util.TreeMap;

/** Many runs of calls, each answer held against a slow model that follows the document's sentences one by one. */
public final class ModelTest {
    private static final int NONE = -1, UNKNOWN = -101, OUTSIDE = -102, STATE = -103, FULL = -104;
    private static final int RUNS = 1500, CALLS = 500, LONG_RUNS = 150, LAST_CALL = 512;
    private static final Set<String> BEGINNINGS = beginnings();
    private static int wrong = 0;
    private static int calls = 0;
    private static final TreeMap<String, Integer> reached = new TreeMap<>();

    private static Set<String> beginnings() {
        Set<String> all = new HashSet<>();
        for (String order : List.of("d", "e", "n", "b")) {
            for (String knowing : List.of("a", "c", "x")) {
                for (String rest : List.of("", "l", "g", "lg")) {
                    for (int days = -1; days < 1110; days++) {
                        String behind = days < 0 ? "" : days < 10 ? "h" + days
                            : days < 110 ? "h" + String.format("%02d", days - 10) : "h" + String.format("%03d", days - 110);
                        String text = order + knowing + rest + behind;
                        for (int i = 0; i <= text.length(); i++) {
                            all.add(text.substring(0, i));
                        }
                    }
                }
            }
        }
        return all;
    }

    private static final class Act implements Cloneable {
        int kind, field, giver, taker, day, entered = NONE, giverName = NONE, takerName = NONE, knew, number;
        boolean lost;

        Act twin() {
            Act a = new Act();
            a.kind = kind; a.field = field; a.giver = giver; a.taker = taker; a.day = day; a.entered = entered;
            a.giverName = giverName; a.takerName = takerName; a.knew = knew; a.number = number; a.lost = lost;
            return a;
        }
        boolean passes() { return kind == 0 || kind == 1 || kind == 2 || kind == 4; }
        boolean findable() { return entered != NONE && kind != 4 && !lost; }
        boolean paid(String law) { return law.contains("g") || kind == 1 || kind == 3 || kind == 4; }
        boolean madeAheadOf(Act other) { return day < other.day || day == other.day && number < other.number; }
        int[] told() {
            return new int[] {kind, field, giver, taker, day, entered, giverName, takerName, lost ? 1 : 0, knew};
        }
    }

    private static final class Found {
        final List<Integer> names = new ArrayList<>();
        final List<Act> used = new ArrayList<>();
        final Set<Integer> found = new HashSet<>();
    }

    private static final class Model {
        List<Integer> people = new ArrayList<>(), roots = new ArrayList<>();
        List<Act> acts = new ArrayList<>();
        TreeMap<Integer, int[]> living = new TreeMap<>();
        List<String> laws = new ArrayList<>();
        String page = "";
        List<Act> keptActs;
        TreeMap<Integer, int[]> keptLiving;

        boolean isPerson(int p) { return p >= 0 && p < people.size(); }
        boolean isField(int f) { return f >= 0 && f < roots.size(); }
        boolean isAct(int d) { return d >= 0 && d < acts.size(); }
        boolean isLaw(int l) { return l >= 0 && l < laws.size(); }

        static List<Act> twins(List<Act> list) {
            List<Act> copy = new ArrayList<>();
            for (Act a : list) { copy.add(a.twin()); }
            return copy;
        }
        static int bits(Iterable<Integer> numbers) {
            int set = 0;
            for (int n : numbers) { set |= 1 << n; }
            return set;
        }

        int person(int name) {
            if (name < 0 || name > 9) { return OUTSIDE; }
            if (people.size() == 12) { return FULL; }
            people.add(name);
            return people.size() - 1;
        }
        int field(int root) {
            if (!isPerson(root)) { return UNKNOWN; }
            if (roots.size() == 6) { return FULL; }
            roots.add(root);
            return roots.size() - 1;
        }
        int deed(int kind, int field, int from, int to, int day) {
            if (kind < 0 || kind > 4) { return OUTSIDE; }
            if (!isField(field) || !isPerson(from) || !isPerson(to) || from == to) { return UNKNOWN; }
            if (day < 0 || day > 999) { return OUTSIDE; }
            if (acts.size() == 16) { return FULL; }
            Act a = new Act();
            a.kind = kind; a.field = field; a.giver = from; a.taker = to; a.day = day; a.number = acts.size();
            acts.add(a);
            return a.number;
        }
        int as(int deed, int kind) {
            if (!isAct(deed)) { return UNKNOWN; }
            if (kind < 0 || kind > 4) { return OUTSIDE; }
            int own = acts.get(deed).kind;
            return kind == 0 || kind == own || own == 4 && kind == 1 ? deed : NONE;
        }
        int about(int deed, int what) {
            if (!isAct(deed)) { return UNKNOWN; }
            return what < 0 || what > 9 ? OUTSIDE : acts.get(deed).told()[what];
        }
        int enter(int deed, int day, int giver, int taker) {
            if (!isAct(deed)) { return UNKNOWN; }
            Act a = acts.get(deed);
            if (day < a.day || day > 999 || giver < -1 || giver > 9 || taker < -1 || taker > 9) { return OUTSIDE; }
            if (a.entered != NONE) { return STATE; }
            a.entered = day;
            a.giverName = giver == NONE ? people.get(a.giver) : giver;
            a.takerName = taker == NONE ? people.get(a.taker) : taker;
            return 1;
        }
        int leaf(int deed, boolean lost) {
            if (!isAct(deed)) { return UNKNOWN; }
            Act a = acts.get(deed);
            if (a.entered == NONE) { return STATE; }
            int before = a.lost ? 1 : 0;
            a.lost = lost;
            return before;
        }
        int knew(int deed, int set) {
            if (!isAct(deed)) { return UNKNOWN; }
            if (set < 0 || set > 65535) { return OUTSIDE; }
            int before = acts.get(deed).knew;
            acts.get(deed).knew = set;
            return before;
        }
        int lives(int field, int person, int day) {
            if (!isField(field) || person != NONE && !isPerson(person)) { return UNKNOWN; }
            if (day < 0 || day > 999) { return OUTSIDE; }
            int[] before = person == NONE ? living.remove(field) : living.put(field, new int[] {person, day});
            return before == null ? NONE : before[0];
        }
        int letters(long w) {
            StringBuilder more = new StringBuilder();
            for (long rest = w; rest != 0; rest >>>= 8) {
                long code = rest & 255;
                if (code == 0 || code > 126) { return OUTSIDE; }
                more.append((char) code);
            }
            if (page.length() + more.length() > 16) { return FULL; }
            page += more;
            return page.length();
        }
        int blank() {
            int before = page.length();
            page = "";
            return before;
        }
        int fault() {
            for (int i = 0; i < page.length(); i++) {
                if (!BEGINNINGS.contains(page.substring(0, i + 1))) { return i; }
            }
            return page.length();
        }
        int law() {
            if (!page.matches("[denb][acx]l?g?(h[0-9]{1,3})?")) { return STATE; }
            if (laws.size() == 4) { return FULL; }
            laws.add(page);
            page = "";
            return laws.size() - 1;
        }

        Found searched(int field, int name, int day) {
            Found s = new Found();
            s.names.add(name);
            while (true) {
                int now = s.names.get(s.names.size() - 1);
                List<Act> fit = new ArrayList<>();
                for (Act a : acts) {
                    if (a.field == field && a.passes() && a.findable() && a.entered <= day && a.takerName == now && !s.used.contains(a)) {
                        fit.add(a);
                    }
                }
                if (fit.isEmpty()) { break; }
                fit.sort(Comparator.comparingInt((Act a) -> a.entered).thenComparingInt(a -> a.number));
                Act last = fit.get(fit.size() - 1);
                s.used.add(last);
                s.names.add(last.giverName);
            }
            for (int i = 0; i < s.names.size(); i++) {
                int from = i < s.used.size() ? s.used.get(i).entered : 0;
                int until = i == 0 ? day : s.used.get(i - 1).entered;
                for (Act a : acts) {
                    if (a.field == field && a.findable() && a.giverName == s.names.get(i) && a.entered >= from && a.entered <= until) {
                        s.found.add(a.number);
                    }
                }
            }
            return s;
        }
        int search(int field, int person, int day, int what) {
            if (!isField(field) || !isPerson(person)) { return UNKNOWN; }
            if (day < 0 || day > 999 || what < 0 || what > 2) { return OUTSIDE; }
            Found s = searched(field, people.get(person), day);
            return what == 0 ? bits(s.found) : what == 1 ? s.used.size() : s.names.get(s.names.size() - 1);
        }
        Set<Integer> heldSet(String law, Act b) {
            Set<Integer> known = new HashSet<>();
            Found s = law.charAt(1) == 'c' ? searched(b.field, people.get(b.giver), b.day) : null;
            int[] there = living.get(b.field);
            for (Act a : acts) {
                if (a.field != b.field || !a.madeAheadOf(b)) { continue; }
                boolean knows = (b.knew >> a.number & 1) == 1;
                knows |= law.charAt(1) == 'a' && a.findable() && a.entered <= b.day;
                knows |= s != null && s.found.contains(a.number);
                knows |= law.contains("l") && there != null && there[0] == a.taker && there[1] <= b.day;
                if (knows) { known.add(a.number); }
            }
            return known;
        }
        int held(int law, int deed) {
            return !isLaw(law) || !isAct(deed) ? UNKNOWN : bits(heldSet(laws.get(law), acts.get(deed)));
        }
        static int days(String law) {
            int h = law.indexOf('h');
            return h < 0 ? 999 : Integer.parseInt(law.substring(h + 1));
        }
        static boolean enteredInTime(String law, Act a) {
            return a.entered != NONE && a.entered <= a.day + days(law);
        }
        static boolean enteredAhead(String law, Act b, Act a) {
            if (!enteredInTime(law, b)) { return false; }
            if (!enteredInTime(law, a)) { return true; }
            return b.entered < a.entered || b.entered == a.entered && b.number < a.number;
        }
        Act winner(String law, Act x, Act y) {
            Act a = x.madeAheadOf(y) ? x : y;
            Act b = a == x ? y : x;
            boolean byEntry = enteredAhead(law, b, a);
            boolean byKnowing = b.paid(law) && !heldSet(law, b).contains(a.number);
            switch (law.charAt(0)) {
                case 'd': return a;
                case 'e': return byEntry ? b : a;
                case 'n': return byKnowing ? b : a;
                default: return byEntry && byKnowing ? b : a;
            }
        }
        int prevails(int law, int a, int b) {
            if (!isLaw(law) || !isAct(a) || !isAct(b) || a == b || acts.get(a).field != acts.get(b).field) { return UNKNOWN; }
            return winner(laws.get(law), acts.get(a), acts.get(b)).number;
        }
        Act firstOf(String law, List<Act> some) {
            List<Act> made = new ArrayList<>(some);
            made.sort((x, y) -> x == y ? 0 : x.madeAheadOf(y) ? -1 : 1);
            for (Act one : made) {
                boolean over = false;
                for (Act other : made) {
                    over |= other != one && winner(law, one, other) == other;
                }
                if (!over) { return one; }
            }
            return made.get(0);
        }
        int first(int law, int set) {
            if (!isLaw(law)) { return UNKNOWN; }
            if (set < 0 || set > 65535) { return OUTSIDE; }
            List<Act> some = new ArrayList<>();
            Set<Integer> fields = new HashSet<>();
            for (int i = 0; i < 16; i++) {
                if ((set >> i & 1) == 1) {
                    if (!isAct(i)) { return UNKNOWN; }
                    some.add(acts.get(i));
                    fields.add(acts.get(i).field);
                }
            }
            if (fields.size() > 1) { return STATE; }
            return some.isEmpty() ? NONE : firstOf(laws.get(law), some).number;
        }
        List<Act> usedOn(String law, int field) {
            List<Act> used = new ArrayList<>();
            int owner = roots.get(field);
            while (true) {
                List<Act> from = new ArrayList<>();
                for (Act a : acts) {
                    if (a.field == field && a.passes() && a.giver == owner && !used.contains(a)) { from.add(a); }
                }
                if (from.isEmpty()) { return used; }
                Act next = firstOf(law, from);
                used.add(next);
                owner = next.taker;
            }
        }
        int ownerOf(String law, int field) {
            List<Act> used = usedOn(law, field);
            return used.isEmpty() ? roots.get(field) : used.get(used.size() - 1).taker;
        }
        int whose(int law, int field, int what) {
            if (!isLaw(law) || !isField(field)) { return UNKNOWN; }
            if (what != 0 && what != 1 && (what < 10 || what > 25)) { return OUTSIDE; }
            List<Act> used = usedOn(laws.get(law), field);
            if (what == 0) { return ownerOf(laws.get(law), field); }
            return what == 1 ? used.size() : what - 10 < used.size() ? used.get(what - 10).number : NONE;
        }
        List<Act> ridingOn(String law, int field) {
            List<Act> used = usedOn(law, field);
            Set<Integer> owners = new HashSet<>(Set.of(roots.get(field)));
            for (Act u : used) { owners.add(u.taker); }
            List<Act> riding = new ArrayList<>();
            for (Act debt : acts) {
                if (debt.field != field || debt.kind != 3 || !owners.contains(debt.giver)) { continue; }
                boolean rides = true;
                for (Act u : used) {
                    rides &= u.giver != debt.giver || winner(law, u, debt) == debt;
                }
                if (rides) { riding.add(debt); }
            }
            List<Act> ranked = new ArrayList<>();
            while (!riding.isEmpty()) {
                Act next = firstOf(law, riding);
                ranked.add(next);
                riding.remove(next);
            }
            return ranked;
        }
        int debts(int law, int field, int what) {
            if (!isLaw(law) || !isField(field)) { return UNKNOWN; }
            if (what != 0 && (what < 10 || what > 25)) { return OUTSIDE; }
            List<Act> ranked = ridingOn(laws.get(law), field);
            return what == 0 ? ranked.size() : what - 10 < ranked.size() ? ranked.get(what - 10).number : NONE;
        }
        int rings(int law, int field) {
            if (!isLaw(law) || !isField(field)) { return UNKNOWN; }
            int rings = 0;
            for (Act a : acts) {
                for (Act b : acts) {
                    for (Act c : acts) {
                        boolean one = a.number < b.number && b.number < c.number && a.field == field && b.field == field
                            && c.field == field && a.giver == b.giver && b.giver == c.giver && a.passes() && b.passes() && c.passes();
                        if (!one) { continue; }
                        Act ab = winner(laws.get(law), a, b), bc = winner(laws.get(law), b, c), ca = winner(laws.get(law), c, a);
                        rings += ab != bc && bc != ca && ca != ab ? 1 : 0;
                    }
                }
            }
            return rings;
        }
        int moves(int law, int other) {
            if (!isLaw(law) || !isLaw(other)) { return UNKNOWN; }
            int set = 0;
            for (int f = 0; f < roots.size(); f++) {
                set |= ownerOf(laws.get(law), f) != ownerOf(laws.get(other), f) ? 1 << f : 0;
            }
            return set;
        }
        int hangingEntry(String law, int field) {
            int before = ownerOf(law, field);
            for (Act d : acts) {
                int day = d.entered;
                d.entered = NONE;
                int after = ownerOf(law, field);
                d.entered = day;
                if (after != before) { return d.number; }
            }
            return NONE;
        }
        int[] hangingKnowing(String law, int field) {
            int before = ownerOf(law, field);
            for (Act d : acts) {
                for (Act k : acts) {
                    if (k == d || !k.madeAheadOf(d) || d.field != field) { continue; }
                    d.knew ^= 1 << k.number;
                    int after = ownerOf(law, field);
                    d.knew ^= 1 << k.number;
                    if (after != before) { return new int[] {d.number, k.number}; }
                }
            }
            return new int[] {NONE, NONE};
        }
        int hangs(int law, int field, int what) {
            if (!isLaw(law) || !isField(field)) { return UNKNOWN; }
            if (what < 0 || what > 2) { return OUTSIDE; }
            return what == 0 ? hangingEntry(laws.get(law), field) : hangingKnowing(laws.get(law), field)[what - 1];
        }
        int wild(int field) {
            if (!isField(field)) { return UNKNOWN; }
            Set<Integer> wild = new HashSet<>();
            for (Act a : acts) {
                if (a.field == field && a.passes() && a.entered != NONE) { wild.add(a.number); }
            }
            for (int name : people) { wild.removeAll(searched(field, name, 999).found); }
            return bits(wild);
        }
        int lost(int law, int person) {
            if (!isLaw(law) || !isPerson(person)) { return UNKNOWN; }
            Set<Integer> lost = new HashSet<>();
            for (Act a : acts) {
                if (a.passes() && a.paid(laws.get(law)) && a.giver == person && !usedOn(laws.get(law), a.field).contains(a)) {
                    lost.add(a.number);
                }
            }
            return bits(lost);
        }
        int safe(int law) {
            if (!isLaw(law)) { return UNKNOWN; }
            int set = 0;
            for (int f = 0; f < roots.size(); f++) {
                set |= hangs(law, f, 0) == NONE && hangs(law, f, 1) == NONE ? 1 << f : 0;
            }
            return set;
        }
        int image() {
            keptActs = twins(acts);
            keptLiving = new TreeMap<>(living);
            return acts.size();
        }
        int restore() {
            if (keptActs == null) { return STATE; }
            acts = twins(keptActs);
            living = new TreeMap<>(keptLiving);
            return acts.size();
        }
        int count(int what) {
            int entered = 0;
            for (Act a : acts) { entered += a.entered != NONE ? 1 : 0; }
            int[] all = {people.size(), roots.size(), acts.size(), laws.size(), page.length(), entered};
            return what < 0 || what > 5 ? OUTSIDE : all[what];
        }
        long digest() {
            List<Integer> all = new ArrayList<>(people);
            for (int f = 0; f < roots.size(); f++) {
                int[] there = living.getOrDefault(f, new int[] {NONE, 0});
                Collections.addAll(all, roots.get(f), there[0], there[1]);
            }
            for (int d = 0; d < acts.size(); d++) {
                for (int what = 0; what < 10; what++) { all.add(about(d, what)); }
            }
            for (int l = 0; l < laws.size(); l++) {
                for (int d = 0; d < acts.size(); d++) { all.add(held(l, d)); }
                for (int f = 0; f < roots.size(); f++) { Collections.addAll(all, whose(l, f, 0), whose(l, f, 1), debts(l, f, 0)); }
            }
            for (char c : page.toCharArray()) { all.add((int) c); }
            for (int what = 0; what < 6; what++) { all.add(count(what)); }
            long h = 367;
            for (int n : all) { h = 31 * h + n; }
            return h;
        }
    }

    /** Numbers that look scattered but are the same in every run of the test. */
    private static final class Dice {
        private long state;

        Dice(long seed) { state = seed * 0x9E3779B97F4A7C15L + 1; }

        int below(int bound) {
            state = state * 6364136223846793005L + 1442695040888963407L;
            return (int) ((state >>> 33) % bound);
        }
        int number(int count) {
            if (below(25) != 0) { return below(Math.max(count, 1)); }
            int[] odd = {-1, -2, count, count + 1, Integer.MAX_VALUE, Integer.MIN_VALUE, 16, 31, 32, 33, 64};
            return odd[below(odd.length)];
        }
        int day() {
            if (below(20) != 0) { return below(30); }
            int[] odd = {-1, 0, 998, 999, 1000, Integer.MAX_VALUE, Integer.MIN_VALUE};
            return odd[below(odd.length)];
        }
        int set(int count) {
            if (below(25) != 0) { return below(1 << Math.max(count, 1)) & (below(2) == 0 ? below(65536) : 65535); }
            int[] odd = {-1, 0, 65535, 65536, 1 << count, Integer.MAX_VALUE, Integer.MIN_VALUE};
            return odd[below(odd.length)];
        }
        long text() {
            if (below(30) == 0) {
                long[] odd = {0, -1, 127, 126, 0x6100L, 0x610061L, 0x80L, 0x8000000000000000L, 0x7f61L, 0x6161616161616161L, 0x6100000000000000L};
                return odd[below(odd.length)];
            }
            String law = "" + "denb".charAt(below(4)) + "acx".charAt(below(3)) + (below(3) == 0 ? "l" : "") + (below(3) == 0 ? "g" : "");
            law += below(3) == 0 ? "h" + below(below(2) == 0 ? 6 : 1200) : "";
            if (below(6) == 0) {
                int cut = below(law.length() + 1);
                law = law.substring(0, cut) + "denbacxlgh09 /:".charAt(below(15)) + law.substring(cut);
            }
            long w = 0;
            for (int i = Math.min(8, law.length()) - 1; i >= 0; i--) { w = w << 8 | law.charAt(i); }
            return w;
        }
        int place() {
            return below(6) == 0 ? number(27) : below(2) == 0 ? below(2) : 10 + below(6);
        }
    }

    private static void reach(String what) {
        reached.merge(what, 1, Integer::sum);
    }

    private static void due(int run, String call, long got, long want) {
        calls++;
        String name = call.substring(0, call.indexOf('('));
        reach(name + (want <= -101 && want >= -104 ? " refuses " + want : want == NONE ? " NONE" : want == 0 ? " 0" : " more"));
        if (got != want) {
            wrong++;
            if (wrong <= 40) {
                System.out.println("run " + run + ": " + call + " answered " + got + ", the model says " + want);
            }
        }
    }

    private static void change(int run, OughtKnown x, Model m, Dice r) {
        int people = m.people.size(), fields = m.roots.size(), acts = m.acts.size();
        switch (r.below(20)) {
            case 0: { int n = r.below(3) == 0 ? r.number(10) : r.below(4); due(run, "person(" + n + ")", x.person(n), m.person(n)); return; }
            case 1: { if (r.below(4) != 0 && fields > 1) { return; }
                int p = r.number(people); due(run, "field(" + p + ")", x.field(p), m.field(p)); return; }
            case 2: case 3: case 4: case 5: case 6: {
                int k = r.number(5), f = r.below(3) == 0 ? r.number(fields) : 0, p = r.number(Math.min(people, 4)), t = r.number(people), d = r.day();
                due(run, "deed(" + k + "," + f + "," + p + "," + t + "," + d + ")", x.deed(k, f, p, t, d), m.deed(k, f, p, t, d)); return; }
            case 7: case 8: case 9: case 10: case 11: {
                int d = r.number(acts), day = m.isAct(d) && r.below(8) != 0 ? m.acts.get(d).day + r.below(8) : r.day();
                int g = r.below(4) == 0 ? r.number(10) : NONE, t = r.below(4) == 0 ? r.number(10) : NONE;
                due(run, "enter(" + d + "," + day + "," + g + "," + t + ")", x.enter(d, day, g, t), m.enter(d, day, g, t)); return; }
            case 12: { int d = r.number(acts); boolean b = r.below(3) == 0; due(run, "leaf(" + d + "," + b + ")", x.leaf(d, b), m.leaf(d, b)); return; }
            case 13: case 14: { int d = r.number(acts), s = r.set(acts); due(run, "knew(" + d + "," + s + ")", x.knew(d, s), m.knew(d, s)); return; }
            case 15: { int f = r.number(fields), p = r.below(5) == 0 ? NONE : r.number(people), d = r.day();
                due(run, "lives(" + f + "," + p + "," + d + ")", x.lives(f, p, d), m.lives(f, p, d)); return; }
            case 16: case 17: {
                long w = r.text();
                due(run, "letters(" + w + ")", x.letters(w), m.letters(w));
                due(run, "fault()", x.fault(), m.fault());
                due(run, "law()", x.law(), m.law());
                if (r.below(3) != 0) { due(run, "blank()", x.blank(), m.blank()); }
                return; }
            case 18: { if (r.below(5) == 0) { due(run, "image()", x.image(), m.image()); } return; }
            default: if (r.below(8) == 0) { due(run, "restore()", x.restore(), m.restore()); }
        }
    }

    private static void ask(int run, OughtKnown x, Model m, Dice r) {
        int l = r.number(m.laws.size()), f = r.below(3) == 0 ? r.number(m.roots.size()) : 0, p = r.number(m.people.size());
        int d = r.number(m.acts.size()), e = r.number(m.acts.size()), day = r.day(), what = r.place(), s = r.set(m.acts.size());
        switch (r.below(20)) {
            case 0: what = r.number(5); due(run, "as(" + d + "," + what + ")", x.as(d, what), m.as(d, what)); return;
            case 1: what = r.number(10); due(run, "about(" + d + "," + what + ")", x.about(d, what), m.about(d, what)); return;
            case 2: case 3: what = r.number(3);
                due(run, "search(" + f + "," + p + "," + day + "," + what + ")", x.search(f, p, day, what), m.search(f, p, day, what));
                return;
            case 4: due(run, "held(" + l + "," + d + ")", x.held(l, d), m.held(l, d)); return;
            case 5: case 6: due(run, "prevails(" + l + "," + d + "," + e + ")", x.prevails(l, d, e), m.prevails(l, d, e)); return;
            case 7: s = oneField(m, f, s, r); due(run, "first(" + l + "," + s + ")", x.first(l, s), m.first(l, s)); return;
            case 8: case 9: due(run, "whose(" + l + "," + f + "," + what + ")", x.whose(l, f, what), m.whose(l, f, what)); return;
            case 10: case 11: due(run, "debts(" + l + "," + f + "," + what + ")", x.debts(l, f, what), m.debts(l, f, what)); return;
            case 12: due(run, "rings(" + l + "," + f + ")", x.rings(l, f), m.rings(l, f)); return;
            case 13: e = r.number(m.laws.size()); due(run, "moves(" + l + "," + e + ")", x.moves(l, e), m.moves(l, e)); return;
            case 14: case 15: what = r.number(3);
                due(run, "hangs(" + l + "," + f + "," + what + ")", x.hangs(l, f, what), m.hangs(l, f, what)); return;
            case 16: due(run, "wild(" + f + ")", x.wild(f), m.wild(f)); return;
            case 17: due(run, "lost(" + l + "," + p + ")", x.lost(l, p), m.lost(l, p)); return;
            case 18: due(run, "safe(" + l + ")", x.safe(l), m.safe(l)); return;
            default: what = r.number(6);
                due(run, "count(" + what + ")", x.count(what), m.count(what));
                due(run, "digest()", x.digest(), m.digest());
        }
    }

    private static int oneField(Model m, int field, int set, Dice r) {
        if (set < 0 || set > 65535 || r.below(5) == 0) { return set; }
        int some = 0;
        for (Act a : m.acts) { some |= a.field == field ? set & 1 << a.number : 0; }
        return some;
    }

    private static void note(Model m) {
        for (Act a : m.acts) {
            for (int name : m.people) {
                int used = m.searched(a.field, name, 999).used.size();
                if (used > 2) { reach("a search of three and more"); }
            }
        }
        for (String law : m.laws) {
            for (int f = 0; f < m.roots.size(); f++) {
                if (m.ridingOn(law, f).size() > 1) { reach("two debts that ride, by " + law.charAt(0)); }
                if (m.usedOn(law, f).size() > 3) { reach("four deeds used, by " + law.charAt(0)); }
            }
        }
    }

    /** An object with its model, used for as many calls as the document allows. */
    private static final class Pair {
        final OughtKnown x = new OughtKnown();
        final Model m = new Model();
        final Dice r;
        final int run;
        int used = 0;

        Pair(int run) {
            this.run = run;
            r = new Dice(run);
        }

        /** A dense land first: few names, all deeds on the first field or two, most of them entered. */
        void begin() {
            calls = 0;
            for (int i = 0; i < 6; i++) { int n = r.below(4); due(run, "person(" + n + ")", x.person(n), m.person(n)); }
            for (int i = 0; i < 2; i++) { int p = r.below(6); due(run, "field(" + p + ")", x.field(p), m.field(p)); }
            for (int i = 0; i < 16; i++) {
                int k = r.below(5), f = r.below(6) == 0 ? 1 : 0, p = r.below(6), t = (p + 1 + r.below(5)) % 6, day = r.below(12);
                due(run, "deed(" + k + "," + f + "," + p + "," + t + "," + day + ")", x.deed(k, f, p, t, day), m.deed(k, f, p, t, day));
                int on = day + r.below(6), g = r.below(6) == 0 ? r.below(10) : NONE;
                if (r.below(5) != 0) { due(run, "enter(" + i + "," + on + "," + g + ",-1)", x.enter(i, on, g, NONE), m.enter(i, on, g, NONE)); }
                int s = r.below(65536) & r.below(65536);
                if (r.below(3) == 0) { due(run, "knew(" + i + "," + s + ")", x.knew(i, s), m.knew(i, s)); }
            }
            for (int i = 0; i < 4; i++) {
                long w = r.text();
                due(run, "letters(" + w + ")", x.letters(w), m.letters(w));
                due(run, "law()", x.law(), m.law());
                due(run, "blank()", x.blank(), m.blank());
            }
            used = calls;
        }

        void goOn() {
            calls = 0;
            if (r.below(12) == 0) { change(run, x, m, r); } else { ask(run, x, m, r); }
            used += calls;
        }

        /** No more than four calls come of one turn, so the last call of all can be chosen. */
        boolean isNearItsEnd() {
            return used > LAST_CALL - 6;
        }

        void end() {
            for (; used < LAST_CALL - 1; used++) { due(run, "count(5)", x.count(5), m.count(5)); }
            due(run, "digest() as the last call", x.digest(), m.digest());
            used++;
            if (used == LAST_CALL) { reach("a run of " + LAST_CALL + " calls"); }
        }
    }

    private static void longRuns(int run) {
        Pair one = new Pair(2 * run + RUNS), other = new Pair(2 * run + 1 + RUNS);
        one.begin();
        other.begin();
        while (!one.isNearItsEnd() || !other.isNearItsEnd()) {
            if (!one.isNearItsEnd()) { one.goOn(); }
            if (!other.isNearItsEnd()) { other.goOn(); }
        }
        one.end();
        other.end();
        note(one.m);
    }

    public static void main(String[] args) {
        for (int run = 0; run < LONG_RUNS; run++) { longRuns(run); }
        for (int run = 0; run < RUNS; run++) {
            OughtKnown x = new OughtKnown();
            Model m = new Model();
            Dice r = new Dice(run);
            for (int i = 0; i < 4; i++) {
                int name = r.below(5);
                due(run, "person(" + name + ")", x.person(name), m.person(name));
            }
            due(run, "field(0)", x.field(0), m.field(0));
            for (int i = 0; i < CALLS / 5; i++) {
                change(run, x, m, r);
                if (r.below(2) == 0) { ask(run, x, m, r); }
            }
            for (int i = 0; i < CALLS / 8; i++) { ask(run, x, m, r); }
            due(run, "digest()", x.digest(), m.digest());
            note(m);
        }
        if (args.length > 0) { System.out.println(reached); }
        for (String need : NEEDED) {
            if (!reached.containsKey(need)) {
                wrong++;
                System.out.println("never reached: " + need);
            }
        }
        System.out.println(wrong == 0 ? "all answers are the model's" : wrong + " answers are not the model's");
        if (wrong != 0) { System.exit(1); }
    }

    private static final String[] NEEDED = {
        "person refuses -102", "person refuses -104", "field refuses -101", "field refuses -104", "deed refuses -101",
        "deed refuses -102", "deed refuses -104", "as refuses -101", "as refuses -102", "as NONE", "about refuses -101",
        "about refuses -102", "about NONE", "enter refuses -101", "enter refuses -102", "enter refuses -103",
        "leaf refuses -101", "leaf refuses -103", "leaf more", "leaf 0", "knew refuses -101", "knew refuses -102", "knew more",
        "lives refuses -101", "lives refuses -102", "lives NONE", "lives more", "letters refuses -102", "letters refuses -104",
        "law refuses -103", "law refuses -104", "law more", "search refuses -101", "search refuses -102", "search more",
        "held refuses -101", "held more", "prevails refuses -101", "prevails more", "first refuses -101", "first refuses -102",
        "first refuses -103", "first NONE", "first more", "whose refuses -101", "whose refuses -102", "whose NONE", "whose more",
        "debts refuses -101", "debts refuses -102", "debts NONE", "debts more", "rings refuses -101", "rings more",
        "moves refuses -101", "moves more", "hangs refuses -101", "hangs refuses -102", "hangs NONE", "hangs more",
        "wild refuses -101", "wild more", "lost refuses -101", "lost more", "safe refuses -101", "safe 0", "safe more",
        "restore refuses -103", "restore more", "count refuses -102", "a run of 512 calls", "a search of three and more",
        "two debts that ride, by d", "two debts that ride, by e", "two debts that ride, by n", "two debts that ride, by b",
        "four deeds used, by d", "four deeds used, by e", "four deeds used, by n", "four deeds used, by b"};
}
