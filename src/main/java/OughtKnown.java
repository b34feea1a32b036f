/** Fields deeded twice, the books they are entered in, and who prevails by which law. */
public final class OughtKnown {
    public static final int NONE = -1, UNKNOWN = -101, OUTSIDE = -102, STATE = -103, FULL = -104;

    private static final int MOST_PEOPLE = 12, MOST_FIELDS = 6, MOST_DEEDS = 16, MOST_LAWS = 4, MOST_LETTERS = 16;
    private static final int LAST_NAME = 9, LAST_DAY = 999, LAST_SET = 65535, LAST_CODE = 126;
    private static final int PLAIN = 0, SALE = 1, DEBT = 3, DARK = 4;
    private static final int ABOUTS = 10, COUNTS = 6, FIRST_PLACE = 10;

    private final int[] names;
    private final int[] roots;
    private final Law[] laws;
    private final Page page;
    private final Books books;
    private final Books kept;
    private final Search trail;
    private final Court court;
    private final Title title;
    private int people;
    private int fields;
    private int lawCount;
    private boolean isKept;

    public OughtKnown() {
        names = new int[MOST_PEOPLE];
        roots = new int[MOST_FIELDS];
        laws = new Law[MOST_LAWS];
        for (int i = 0; i < MOST_LAWS; i++) {
            laws[i] = new Law();
        }
        page = new Page();
        books = new Books();
        kept = new Books();
        trail = new Search(books);
        court = new Court(books, names, trail);
        title = new Title(books, court);
    }

    // ---- people, fields, deeds

    public int person(int name) {
        if (!isWithin(name, LAST_NAME)) {
            return OUTSIDE;
        }
        if (people >= MOST_PEOPLE) {
            return FULL;
        }
        names[people] = name;
        people++;
        return people - 1;
    }

    public int field(int root) {
        if (!isPerson(root)) {
            return UNKNOWN;
        }
        if (fields >= MOST_FIELDS) {
            return FULL;
        }
        roots[fields] = root;
        fields++;
        return fields - 1;
    }

    public int deed(int kind, int field, int from, int to, int day) {
        if (!isWithin(kind, DARK)) {
            return OUTSIDE;
        }
        if (!isField(field) || !isPerson(from) || !isPerson(to) || from == to) {
            return UNKNOWN;
        }
        if (!isWithin(day, LAST_DAY)) {
            return OUTSIDE;
        }
        if (books.size >= MOST_DEEDS) {
            return FULL;
        }
        books.deeds[books.size].begin(kind, field, from, to, day);
        books.size++;
        return books.size - 1;
    }

    public int as(int deed, int kind) {
        if (!isDeed(deed)) {
            return UNKNOWN;
        }
        if (!isWithin(kind, DARK)) {
            return OUTSIDE;
        }
        return books.deeds[deed].isOfKind(kind) ? deed : NONE;
    }

    public int about(int deed, int what) {
        if (!isDeed(deed)) {
            return UNKNOWN;
        }
        if (!isWithin(what, ABOUTS - 1)) {
            return OUTSIDE;
        }
        return books.deeds[deed].tell(what);
    }

    public int enter(int deed, int day, int giver, int taker) {
        if (!isDeed(deed)) {
            return UNKNOWN;
        }
        Deed entry = books.deeds[deed];
        if (day < entry.day || day > LAST_DAY || !isWrittenName(giver) || !isWrittenName(taker)) {
            return OUTSIDE;
        }
        if (entry.isEntered()) {
            return STATE;
        }
        entry.entered = day;
        entry.giverName = giver == NONE ? nameOf(entry.giver) : giver;
        entry.takerName = taker == NONE ? nameOf(entry.taker) : taker;
        return 1;
    }

    public int leaf(int deed, boolean lost) {
        if (!isDeed(deed)) {
            return UNKNOWN;
        }
        Deed entry = books.deeds[deed];
        if (!entry.isEntered()) {
            return STATE;
        }
        int before = entry.leafLost ? 1 : 0;
        entry.leafLost = lost;
        return before;
    }

    public int knew(int deed, int set) {
        if (!isDeed(deed)) {
            return UNKNOWN;
        }
        if (!isWithin(set, LAST_SET)) {
            return OUTSIDE;
        }
        int before = books.deeds[deed].knew;
        books.deeds[deed].knew = set;
        return before;
    }

    public int lives(int field, int person, int day) {
        if (!isField(field) || (person != NONE && !isPerson(person))) {
            return UNKNOWN;
        }
        if (!isWithin(day, LAST_DAY)) {
            return OUTSIDE;
        }
        int before = books.dwellers[field];
        books.dwellers[field] = person;
        books.since[field] = person == NONE ? 0 : day;
        return before;
    }

    // ---- laws

    public int letters(long w) {
        return page.append(w);
    }

    public int blank() {
        int before = page.size;
        page.size = 0;
        return before;
    }

    public int fault() {
        return page.faultPlace();
    }

    public int law() {
        if (!page.isLaw()) {
            return STATE;
        }
        if (lawCount >= MOST_LAWS) {
            return FULL;
        }
        page.readInto(laws[lawCount]);
        page.size = 0;
        lawCount++;
        return lawCount - 1;
    }

    // ---- searches

    public int search(int field, int person, int day, int what) {
        if (!isField(field) || !isPerson(person)) {
            return UNKNOWN;
        }
        if (!isWithin(day, LAST_DAY) || !isWithin(what, 2)) {
            return OUTSIDE;
        }
        trail.run(field, names[person], day);
        if (what == 0) {
            return trail.found;
        }
        return what == 1 ? trail.steps : trail.name;
    }

    public int held(int law, int deed) {
        if (!isLaw(law) || !isDeed(deed)) {
            return UNKNOWN;
        }
        return court.heldBy(laws[law], deed);
    }

    public int prevails(int law, int a, int b) {
        if (!isLaw(law) || !isDeed(a) || !isDeed(b) || a == b) {
            return UNKNOWN;
        }
        int field = books.deeds[a].field;
        if (books.deeds[b].field != field) {
            return UNKNOWN;
        }
        court.open(laws[law], field);
        return court.isBeaten(a, bit(b)) ? b : a;
    }

    public int first(int law, int set) {
        if (!isLaw(law)) {
            return UNKNOWN;
        }
        if (!isWithin(set, LAST_SET)) {
            return OUTSIDE;
        }
        if (set >>> books.size != 0) {
            return UNKNOWN;
        }
        if (set == 0) {
            return NONE;
        }
        int field = books.deeds[lowest(set)].field;
        if ((set & ~books.ofField(field)) != 0) {
            return STATE;
        }
        court.open(laws[law], field);
        return court.firstOf(set);
    }

    // ---- whose it is

    public int whose(int law, int field, int what) {
        if (!isLaw(law) || !isField(field)) {
            return UNKNOWN;
        }
        if (!isWithin(what, 1) && !isPlace(what)) {
            return OUTSIDE;
        }
        court.open(laws[law], field);
        title.follow(roots[field]);
        if (what == 0) {
            return title.owner;
        }
        return what == 1 ? title.usedCount : title.usedAt(what - FIRST_PLACE);
    }

    public int debts(int law, int field, int what) {
        if (!isLaw(law) || !isField(field)) {
            return UNKNOWN;
        }
        if (what != 0 && !isPlace(what)) {
            return OUTSIDE;
        }
        court.open(laws[law], field);
        title.follow(roots[field]);
        int riding = title.riding();
        return what == 0 ? Integer.bitCount(riding) : title.ranked(riding, what - FIRST_PLACE);
    }

    public int rings(int law, int field) {
        if (!isLaw(law) || !isField(field)) {
            return UNKNOWN;
        }
        court.open(laws[law], field);
        int rings = 0;
        for (int giver = 0; giver < people; giver++) {
            rings += court.ringsAmong(court.passingFrom(giver));
        }
        return rings;
    }

    public int moves(int law, int other) {
        if (!isLaw(law) || !isLaw(other)) {
            return UNKNOWN;
        }
        int moved = 0;
        for (int field = 0; field < fields; field++) {
            if (ownerBy(laws[law], field) != ownerBy(laws[other], field)) {
                moved |= bit(field);
            }
        }
        return moved;
    }

    public int hangs(int law, int field, int what) {
        if (!isLaw(law) || !isField(field)) {
            return UNKNOWN;
        }
        if (!isWithin(what, 2)) {
            return OUTSIDE;
        }
        if (what == 0) {
            return title.hangingEntry(laws[law], field, roots[field]);
        }
        int pair = title.hangingKnowing(laws[law], field, roots[field]);
        if (pair == NONE) {
            return NONE;
        }
        return what == 1 ? pair / MOST_DEEDS : pair % MOST_DEEDS;
    }

    public int wild(int field) {
        if (!isField(field)) {
            return UNKNOWN;
        }
        int found = 0;
        for (int person = 0; person < people; person++) {
            trail.run(field, names[person], LAST_DAY);
            found |= trail.found;
        }
        return books.passingEntries(field) & ~found;
    }

    public int lost(int law, int person) {
        if (!isLaw(law) || !isPerson(person)) {
            return UNKNOWN;
        }
        int losing = 0;
        for (int field = 0; field < fields; field++) {
            court.open(laws[law], field);
            title.follow(roots[field]);
            losing |= court.paidAmong(court.passingFrom(person)) & ~title.used;
        }
        return losing;
    }

    public int safe(int law) {
        if (!isLaw(law)) {
            return UNKNOWN;
        }
        int safe = 0;
        for (int field = 0; field < fields; field++) {
            if (title.hangingEntry(laws[law], field, roots[field]) == NONE
                    && title.hangingKnowing(laws[law], field, roots[field]) == NONE) {
                safe |= bit(field);
            }
        }
        return safe;
    }

    // ---- what is told

    public int image() {
        kept.copy(books);
        isKept = true;
        return kept.size;
    }

    public int restore() {
        if (!isKept) {
            return STATE;
        }
        books.copy(kept);
        return books.size;
    }

    public int count(int what) {
        return isWithin(what, COUNTS - 1) ? tally(what) : OUTSIDE;
    }

    public long digest() {
        long h = 367;
        for (int i = 0; i < people; i++) {
            h = mixed(h, names[i]);
        }
        for (int i = 0; i < fields; i++) {
            h = mixed(mixed(mixed(h, roots[i]), books.dwellers[i]), books.since[i]);
        }
        for (int i = 0; i < books.size; i++) {
            for (int what = 0; what < ABOUTS; what++) {
                h = mixed(h, books.deeds[i].tell(what));
            }
        }
        for (int i = 0; i < lawCount; i++) {
            h = mixedWithLaw(h, laws[i]);
        }
        for (int i = 0; i < page.size; i++) {
            h = mixed(h, page.codes[i]);
        }
        for (int what = 0; what < COUNTS; what++) {
            h = mixed(h, tally(what));
        }
        return h;
    }

    private long mixedWithLaw(long start, Law law) {
        long h = start;
        for (int i = 0; i < books.size; i++) {
            h = mixed(h, court.heldBy(law, i));
        }
        for (int i = 0; i < fields; i++) {
            court.open(law, i);
            title.follow(roots[i]);
            h = mixed(mixed(h, title.owner), title.usedCount);
            h = mixed(h, Integer.bitCount(title.riding()));
        }
        return h;
    }

    private int tally(int what) {
        switch (what) {
            case 0:
                return people;
            case 1:
                return fields;
            case 2:
                return books.size;
            case 3:
                return lawCount;
            case 4:
                return page.size;
            default:
                return books.enteredCount();
        }
    }

    private int ownerBy(Law law, int field) {
        court.open(law, field);
        title.follow(roots[field]);
        return title.owner;
    }

    private int nameOf(int person) {
        return isPerson(person) ? names[person] : NONE;
    }

    private boolean isPerson(int number) {
        return number >= 0 && number < people;
    }

    private boolean isField(int number) {
        return number >= 0 && number < fields;
    }

    private boolean isDeed(int number) {
        return number >= 0 && number < books.size;
    }

    private boolean isLaw(int number) {
        return number >= 0 && number < lawCount;
    }

    private static boolean isWrittenName(int name) {
        return name == NONE || isWithin(name, LAST_NAME);
    }

    private static boolean isPlace(int what) {
        return what >= FIRST_PLACE && what < FIRST_PLACE + MOST_DEEDS;
    }

    private static boolean isWithin(int number, int last) {
        return number >= 0 && number <= last;
    }

    private static long mixed(long h, int number) {
        return 31 * h + number;
    }

    private static int bit(int number) {
        return 1 << number;
    }

    private static boolean has(int set, int number) {
        return (set >>> number & 1) != 0;
    }

    /** The least number of a set of DEEDS; only asked of sets that are not empty. */
    private static int lowest(int set) {
        return Math.min(Integer.numberOfTrailingZeros(set), MOST_DEEDS - 1);
    }

    private static final class Deed {
        private int kind;
        private int field;
        private int giver;
        private int taker;
        private int day;
        private int entered = NONE;
        private int giverName = NONE;
        private int takerName = NONE;
        private boolean leafLost;
        private int knew;

        private void begin(int newKind, int newField, int from, int to, int newDay) {
            kind = newKind;
            field = newField;
            giver = from;
            taker = to;
            day = newDay;
            entered = NONE;
            giverName = NONE;
            takerName = NONE;
            leafLost = false;
            knew = 0;
        }

        private void copy(Deed other) {
            begin(other.kind, other.field, other.giver, other.taker, other.day);
            entered = other.entered;
            giverName = other.giverName;
            takerName = other.takerName;
            leafLost = other.leafLost;
            knew = other.knew;
        }

        private boolean isOfKind(int asked) {
            return asked == PLAIN || asked == kind || (asked == SALE && kind == DARK);
        }

        private boolean passes() {
            return kind != DEBT;
        }

        private boolean isPaid() {
            return kind == SALE || kind == DARK || kind == DEBT;
        }

        private boolean isEntered() {
            return entered != NONE;
        }

        private boolean canBeFound() {
            return entered != NONE && kind != DARK && !leafLost;
        }

        private int tell(int what) {
            switch (what) {
                case 0:
                    return kind;
                case 1:
                    return field;
                case 2:
                    return giver;
                case 3:
                    return taker;
                case 4:
                    return day;
                case 5:
                    return entered;
                case 6:
                    return giverName;
                case 7:
                    return takerName;
                case 8:
                    return leafLost ? 1 : 0;
                default:
                    return knew;
            }
        }
    }

    /** All that an IMAGE keeps: the DEEDS, and who LIVES where. */
    private static final class Books {
        private final Deed[] deeds;
        private final int[] dwellers;
        private final int[] since;
        private int size;

        private Books() {
            deeds = new Deed[MOST_DEEDS];
            for (int i = 0; i < MOST_DEEDS; i++) {
                deeds[i] = new Deed();
            }
            dwellers = new int[MOST_FIELDS];
            for (int i = 0; i < MOST_FIELDS; i++) {
                dwellers[i] = NONE;
            }
            since = new int[MOST_FIELDS];
        }

        private void copy(Books other) {
            size = other.size;
            for (int i = 0; i < size; i++) {
                deeds[i].copy(other.deeds[i]);
            }
            // Fields that are not there yet have nobody, so a restore empties those that came since.
            for (int i = 0; i < MOST_FIELDS; i++) {
                dwellers[i] = other.dwellers[i];
                since[i] = other.since[i];
            }
        }

        private int ofField(int field) {
            int set = 0;
            for (int i = 0; i < size; i++) {
                if (deeds[i].field == field) {
                    set |= bit(i);
                }
            }
            return set;
        }

        private int findable(int field) {
            int set = 0;
            for (int i = 0; i < size; i++) {
                if (deeds[i].field == field && deeds[i].canBeFound()) {
                    set |= bit(i);
                }
            }
            return set;
        }

        private int passingEntries(int field) {
            int set = 0;
            for (int i = 0; i < size; i++) {
                if (deeds[i].field == field && deeds[i].passes() && deeds[i].isEntered()) {
                    set |= bit(i);
                }
            }
            return set;
        }

        private int enteredCount() {
            int entries = 0;
            for (int i = 0; i < size; i++) {
                if (deeds[i].isEntered()) {
                    entries++;
                }
            }
            return entries;
        }

        private boolean isMadeAhead(int a, int b) {
            int dayA = deeds[a].day;
            int dayB = deeds[b].day;
            return dayA < dayB || (dayA == dayB && a < b);
        }
    }

    /** THE SEARCH back through the NAMES; it keeps what the last one came to. */
    private static final class Search {
        private final Books books;
        private int findable;
        private int found;
        private int steps;
        private int name;

        private Search(Books books) {
            this.books = books;
        }

        private void run(int field, int firstName, int day) {
            findable = books.findable(field);
            found = 0;
            steps = 0;
            name = firstName;
            int unused = findable;
            int until = day;
            for (int i = 0; i <= MOST_DEEDS; i++) {
                int source = lastTo(unused, day);
                int from = source == NONE ? 0 : books.deeds[source].entered;
                gather(from, until);
                if (source == NONE) {
                    return;
                }
                unused &= ~bit(source);
                steps++;
                until = from;
                name = books.deeds[source].giverName;
            }
        }

        private int lastTo(int unused, int day) {
            int last = NONE;
            int lastDay = NONE;
            for (int i = 0; i < books.size; i++) {
                Deed deed = books.deeds[i];
                if (has(unused, i) && deed.passes() && deed.takerName == name
                        && deed.entered <= day && deed.entered >= lastDay) {
                    last = i;
                    lastDay = deed.entered;
                }
            }
            return last;
        }

        private void gather(int from, int until) {
            for (int i = 0; i < books.size; i++) {
                Deed deed = books.deeds[i];
                if (has(findable, i) && deed.giverName == name
                        && deed.entered >= from && deed.entered <= until) {
                    found |= bit(i);
                }
            }
        }
    }

    /** A LAW is read once, into an object that was made for it ahead. */
    private static final class Law {
        private int order = 'd';
        private int knowing = 'x';
        private boolean minding;
        private boolean gifts;
        private int days = LAST_DAY;

        /** The next letter of a text that is known to be a LAW. */
        private void take(int place, int code) {
            if (place == 0) {
                order = code;
            } else if (place == 1) {
                knowing = code;
            } else if (code == 'l') {
                minding = true;
            } else if (code == 'g') {
                gifts = true;
            } else {
                days = code == 'h' ? 0 : 10 * days + code - '0';
            }
        }

        private boolean asksEntry() {
            return order == 'e' || order == 'b';
        }

        private boolean asksKnowing() {
            return order == 'n' || order == 'b';
        }
    }

    /** THE PAGE; a LAW's letters are told by stages, each the last part that was read. */
    private static final class Page {
        private static final int NOWHERE = -1, START = 0, ORDER = 1, KNOWING = 2, LIVING = 3, GIFTS = 4, DAYS = 5;
        private static final int LAST_DIGIT = DAYS + 3;
        private static final int BYTES = 8;

        private final int[] codes;
        private int size;

        private Page() {
            codes = new int[MOST_LETTERS];
        }

        private int append(long w) {
            int more = lengthOf(w);
            if (more == NONE) {
                return OUTSIDE;
            }
            if (size + more > MOST_LETTERS) {
                return FULL;
            }
            for (int i = 0; i < more; i++) {
                codes[size + i] = byteOf(w, i);
            }
            size += more;
            return size;
        }

        /** How many letters w tells, or NONE if it is not as told. */
        private static int lengthOf(long w) {
            int length = 0;
            for (int i = 0; i < BYTES; i++) {
                int code = byteOf(w, i);
                if (code > LAST_CODE || (code != 0 && length < i)) {
                    return NONE;
                }
                if (code != 0) {
                    length++;
                }
            }
            return length;
        }

        private static int byteOf(long w, int place) {
            return (int) (w >>> (8 * place)) & 255;
        }

        private int faultPlace() {
            int stage = START;
            for (int i = 0; i < size; i++) {
                stage = stageBehind(stage, codes[i]);
                if (stage == NOWHERE) {
                    return i;
                }
            }
            return size;
        }

        private boolean isLaw() {
            int stage = START;
            for (int i = 0; i < size; i++) {
                stage = stageBehind(stage, codes[i]);
            }
            return stage >= KNOWING && stage != DAYS;
        }

        private static int stageBehind(int stage, int code) {
            if (stage == NOWHERE) {
                return NOWHERE;
            }
            if (stage == START) {
                return code == 'd' || code == 'e' || code == 'n' || code == 'b' ? ORDER : NOWHERE;
            }
            if (stage == ORDER) {
                return code == 'a' || code == 'c' || code == 'x' ? KNOWING : NOWHERE;
            }
            if (stage >= DAYS) {
                return stage < LAST_DIGIT && code >= '0' && code <= '9' ? stage + 1 : NOWHERE;
            }
            if (code == 'l' && stage < LIVING) {
                return LIVING;
            }
            if (code == 'g' && stage < GIFTS) {
                return GIFTS;
            }
            return code == 'h' ? DAYS : NOWHERE;
        }

        private void readInto(Law law) {
            for (int i = 0; i < size; i++) {
                law.take(i, codes[i]);
            }
        }
    }

    /** Which of the DEEDS of one FIELD PREVAIL by one law: open() settles every two of them. */
    private static final class Court {
        private static final int BEHIND_ALL = LAST_DAY + 1;

        private final Books books;
        private final int[] names;
        private final Search trail;
        private final int[] ahead;
        private final int[] told;
        private final int[] beaters;
        private Law law;
        private int docket;

        private Court(Books books, int[] names, Search trail) {
            this.books = books;
            this.names = names;
            this.trail = trail;
            ahead = new int[MOST_DEEDS];
            told = new int[MOST_DEEDS];
            beaters = new int[MOST_DEEDS];
            law = new Law();
        }

        private void open(Law newLaw, int field) {
            law = newLaw;
            docket = books.ofField(field);
            for (int b = 0; b < books.size; b++) {
                if (has(docket, b)) {
                    ahead[b] = madeAheadOf(b, docket);
                    // Told to nobody where the law does not ask for it: THE SEARCH is dear.
                    told[b] = law.asksKnowing() ? toldTo(law, b) : 0;
                    beaters[b] = 0;
                }
            }
            for (int b = 0; b < books.size; b++) {
                for (int a = 0; a < books.size; a++) {
                    if (has(docket, b) && has(ahead[b], a)) {
                        settle(a, b);
                    }
                }
            }
        }

        /** Of two DEEDS, a made ahead of b: can be asked again when what b's TAKER KNEW has changed. */
        private void settle(int a, int b) {
            if (isOverturned(a, b)) {
                beaters[a] |= bit(b);
                beaters[b] &= ~bit(a);
            } else {
                beaters[a] &= ~bit(b);
                beaters[b] |= bit(a);
            }
        }

        private boolean isOverturned(int a, int b) {
            if (law.asksEntry() && !isEnteredAhead(b, a)) {
                return false;
            }
            if (law.asksKnowing() && !isInnocent(a, b)) {
                return false;
            }
            return law.asksEntry() || law.asksKnowing();
        }

        private boolean isEnteredAhead(int b, int a) {
            int dayB = countedEntry(books.deeds[b]);
            int dayA = countedEntry(books.deeds[a]);
            return dayB < dayA || (dayB == dayA && dayB != BEHIND_ALL && b < a);
        }

        private int countedEntry(Deed deed) {
            boolean counts = deed.entered != NONE && deed.entered - deed.day <= law.days;
            return counts ? deed.entered : BEHIND_ALL;
        }

        private boolean isInnocent(int a, int b) {
            Deed deed = books.deeds[b];
            return (law.gifts || deed.isPaid()) && !has(deed.knew | told[b], a);
        }

        private int heldBy(Law asked, int b) {
            Deed deed = books.deeds[b];
            return madeAheadOf(b, books.ofField(deed.field)) & (deed.knew | toldTo(asked, b));
        }

        private int madeAheadOf(int b, int set) {
            int made = 0;
            for (int a = 0; a < books.size; a++) {
                if (has(set, a) && books.isMadeAhead(a, b)) {
                    made |= bit(a);
                }
            }
            return made;
        }

        /** What the law alone lets the TAKER know, made ahead or not. */
        private int toldTo(Law asked, int b) {
            Deed deed = books.deeds[b];
            int set = asked.minding ? livingThere(deed) : 0;
            if (asked.knowing == 'a') {
                set |= enteredUntil(deed);
            } else if (asked.knowing == 'c' && deed.giver >= 0 && deed.giver < names.length) {
                trail.run(deed.field, names[deed.giver], deed.day);
                set |= trail.found;
            }
            return set;
        }

        private int livingThere(Deed deed) {
            if (books.since[deed.field] > deed.day) {
                return 0;
            }
            int set = 0;
            for (int a = 0; a < books.size; a++) {
                if (books.deeds[a].taker == books.dwellers[deed.field]) {
                    set |= bit(a);
                }
            }
            return set;
        }

        private int enteredUntil(Deed deed) {
            int set = books.findable(deed.field);
            for (int a = 0; a < books.size; a++) {
                if (books.deeds[a].entered > deed.day) {
                    set &= ~bit(a);
                }
            }
            return set;
        }

        private boolean isBeaten(int deed, int set) {
            return (beaters[deed] & set) != 0;
        }

        private int firstOf(int set) {
            int made = NONE;
            int unbeaten = NONE;
            for (int i = 0; i < books.size; i++) {
                if (has(set, i)) {
                    if (made == NONE || books.isMadeAhead(i, made)) {
                        made = i;
                    }
                    if (!isBeaten(i, set) && (unbeaten == NONE || books.isMadeAhead(i, unbeaten))) {
                        unbeaten = i;
                    }
                }
            }
            return unbeaten == NONE ? made : unbeaten;
        }

        private int passingFrom(int giver) {
            int set = 0;
            for (int i = 0; i < books.size; i++) {
                if (has(docket, i) && books.deeds[i].passes() && books.deeds[i].giver == giver) {
                    set |= bit(i);
                }
            }
            return set;
        }

        private int debtsOnDocket() {
            int set = 0;
            for (int i = 0; i < books.size; i++) {
                if (has(docket, i) && !books.deeds[i].passes()) {
                    set |= bit(i);
                }
            }
            return set;
        }

        private int paidAmong(int set) {
            int paid = 0;
            for (int i = 0; i < books.size; i++) {
                if (has(set, i) && (law.gifts || books.deeds[i].isPaid())) {
                    paid |= bit(i);
                }
            }
            return paid;
        }

        private int ringsAmong(int set) {
            int rings = 0;
            for (int a = 0; a < books.size; a++) {
                for (int b = a + 1; b < books.size; b++) {
                    for (int c = b + 1; c < books.size; c++) {
                        int three = bit(a) | bit(b) | bit(c);
                        if ((set & three) == three && isBeaten(a, three)
                                && isBeaten(b, three) && isBeaten(c, three)) {
                            rings++;
                        }
                    }
                }
            }
            return rings;
        }
    }

    /** Whose the FIELD before the court is, and what that hangs on. */
    private static final class Title {
        private final Books books;
        private final Court court;
        private final int[] order;
        private int owner;
        private int owners;
        private int used;
        private int usedCount;

        private Title(Books books, Court court) {
            this.books = books;
            this.court = court;
            order = new int[MOST_DEEDS];
        }

        private void follow(int root) {
            owner = root;
            owners = bit(root);
            used = 0;
            usedCount = 0;
            for (int i = 0; i < MOST_DEEDS; i++) {
                int next = court.firstOf(court.passingFrom(owner) & ~used);
                if (next == NONE) {
                    return;
                }
                order[i] = next;
                usedCount++;
                used |= bit(next);
                owner = books.deeds[next].taker;
                owners |= bit(owner);
            }
        }

        private int usedAt(int place) {
            return place >= 0 && place < usedCount ? order[place] : NONE;
        }

        private int riding() {
            int debts = court.debtsOnDocket();
            int riding = 0;
            for (int i = 0; i < books.size; i++) {
                int giver = books.deeds[i].giver;
                if (has(debts, i) && has(owners, giver)
                        && !court.isBeaten(i, used & court.passingFrom(giver))) {
                    riding |= bit(i);
                }
            }
            return riding;
        }

        private int ranked(int riding, int place) {
            int rest = riding;
            for (int i = 0; i < MOST_DEEDS; i++) {
                int next = court.firstOf(rest);
                if (next == NONE || i == place) {
                    return next;
                }
                rest &= ~bit(next);
            }
            return NONE;
        }

        private int hangingEntry(Law law, int field, int root) {
            court.open(law, field);
            follow(root);
            int before = owner;
            for (int i = 0; i < books.size; i++) {
                Deed deed = books.deeds[i];
                if (deed.field == field && deed.isEntered()) {
                    int day = deed.entered;
                    deed.entered = NONE;
                    court.open(law, field);
                    follow(root);
                    deed.entered = day;
                    if (owner != before) {
                        return i;
                    }
                }
            }
            return NONE;
        }

        /** The DEED d and the DEED k, as d times MOST_DEEDS and k; or NONE. */
        private int hangingKnowing(Law law, int field, int root) {
            court.open(law, field);
            follow(root);
            int before = owner;
            for (int d = 0; d < books.size; d++) {
                for (int k = 0; k < books.size; k++) {
                    if (books.deeds[d].field == field && has(court.ahead[d], k)
                            && ownerOtherwiseKnowing(d, k, root) != before) {
                        return d * MOST_DEEDS + k;
                    }
                }
            }
            return NONE;
        }

        private int ownerOtherwiseKnowing(int d, int k, int root) {
            Deed deed = books.deeds[d];
            int knewBefore = deed.knew;
            deed.knew = knewBefore ^ bit(k);
            court.settle(k, d);
            follow(root);
            deed.knew = knewBefore;
            court.settle(k, d);
            return owner;
        }
    }
}
