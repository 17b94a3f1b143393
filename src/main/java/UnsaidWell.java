/**
 * A well at which what was said may be unsaid for pails of water. The promises are those of
 * shared/DOC.md; its words in capitals are used here in its sense.
 */
public final class UnsaidWell {
    public static final int NONE = -1, UNKNOWN = -1000000001, OUTSIDE = -1000000002, NOT = -1000000003, FULL = -1000000004;

    private static final int MOST_LETTERS = 240;
    private static final int MOST_FIGURES = 3;
    private static final int MOST_LEVEL = 99;
    private static final int MOST_SPRING = 20;
    private static final int MOST_PERSONS = 5;
    private static final int MOST_ARM = 9;
    private static final int MOST_SAYINGS = 10;
    private static final int MOST_WEIGHT = 20;
    private static final int MOST_TOLD_WORTH = 99;
    private static final int TOLD_WORTH_OF_NOTHING = 50;
    private static final int MOST_LINKS = 15;
    private static final int MOST_RAIN = 99;
    private static final int MOST_QUEUED = 6;
    private static final int MOST_NIGHTS_A_CALL = 60;
    private static final int NIGHTS_THAT_FILL = 9000;
    private static final int MOST_UNDONE = 16;
    private static final int MOST_ENTRIES = 15;
    private static final int MOST_IMAGES = 2;
    private static final int MOST_PAILS_TRIED = 99;
    private static final int MOST_WEIGHT_TRIED = 200;
    private static final int MOST_DRY_NIGHTS = 99;
    private static final int WORTH_SHIFT = 1000;
    private static final int BILLION = 1000000000;

    private static final int CANNOT_STAND = 1;
    private static final int WRONG_NUMBER = 2;
    private static final int TOO_MANY = 3;
    private static final int WRONG_LINK = 4;
    private static final int FAULT_SHIFT = -10;

    private final Reader reader = new Reader();
    private Yard place = new Yard();
    private Yard spare = new Yard();
    private final Well now = new Well();
    private final Well trial = new Well();
    private final Past past = new Past();
    private final Book book = new Book();
    private final Draws draws = new Draws();
    private final Images images = new Images();
    private final Riddle riddle = new Riddle();

    public UnsaidWell() {
    }

    // ---- the yard

    public int feed(int letter) {
        if (letter < 0 || letter > 255) {
            return OUTSIDE;
        }
        return reader.add(letter) ? reader.length : FULL;
    }

    public int yard() {
        int kind = reader.readInto(spare);
        if (kind != 0) {
            return FAULT_SHIFT - kind;
        }
        Yard read = spare;
        spare = place;
        place = read;
        now.begin(place);
        past.forget();
        book.count = 0;
        images.forget();
        return place.sayings;
    }

    public int fault() {
        return reader.faultAt;
    }

    public int told(int what) {
        switch (what) {
            case 0: return place.persons;
            case 1: return place.sayings;
            case 2: return place.links;
            case 3: return reader.length;
            case 4: return now.nights;
            case 5: return now.level;
            case 6: return now.rain;
            case 7: return place.holding(now.unsaid);
            case 8: return now.unsaid;
            case 9: return now.vowed;
            case 10: return now.cobbles;
            case 11: return place.worthOf(place.holding(now.unsaid)) + WORTH_SHIFT;
            case 12: return place.heaviest(now.unsaid);
            case 13: return now.queued;
            case 14: return book.count;
            case 15: return past.count;
            case 16: return place.spring;
            default: return OUTSIDE;
        }
    }

    public int saying(int s, int what) {
        if (!place.hasSaying(s)) {
            return UNKNOWN;
        }
        switch (what) {
            case 0: return place.owners[s];
            case 1: return place.weights[s];
            case 2: return place.worths[s] + WORTH_SHIFT;
            case 3: return now.wet[s];
            case 4: return place.depthOf(s);
            case 5: return place.rootsOf(s);
            case 6: return place.fallsOf(s, now.unsaid);
            case 7: return place.sources[s];
            default: return OUTSIDE;
        }
    }

    public int person(int p, int what) {
        if (!place.hasPerson(p)) {
            return UNKNOWN;
        }
        switch (what) {
            case 0: return place.arms[p];
            case 1: return place.sayingsOf(p);
            case 2: return place.leansOf(p);
            case 3: return place.shareOf(p, now.level);
            default: return OUTSIDE;
        }
    }

    public int queued(int n, int what) {
        if (what < 0 || what > 1) {
            return OUTSIDE;
        }
        if (n < 0 || n >= now.queued) {
            return NONE;
        }
        return what == 0 ? now.queuedPersons[n] : now.queuedSayings[n];
    }

    // ---- what is done

    public int pour(int p, int s) {
        if (!place.hasPerson(p) || !place.hasSaying(s)) {
            return UNKNOWN;
        }
        if (now.drawable(place, p, s) == 0) {
            return NOT;
        }
        past.remember(now);
        return now.pourOn(place, p, s);
    }

    public int say(int s) {
        if (!place.hasSaying(s)) {
            return UNKNOWN;
        }
        past.remember(now);
        return now.sayAgain(s);
    }

    public int vow(int s, boolean is) {
        if (!place.hasSaying(s)) {
            return UNKNOWN;
        }
        past.remember(now);
        int was = now.vowed >> s & 1;
        now.vowed = is ? now.vowed | 1 << s : now.vowed & ~(1 << s);
        return was;
    }

    public int night(int n) {
        int refusal = refusalOfNights(n);
        if (refusal != 0) {
            return refusal;
        }
        past.remember(now);
        for (int i = 0; i < n; i++) {
            now.passNight(place.spring);
        }
        return now.level;
    }

    public int rain(int n) {
        if (n < 0 || n > MOST_RAIN) {
            return OUTSIDE;
        }
        if (!place.isTold) {
            return NOT;
        }
        past.remember(now);
        int was = now.rain;
        now.rain = n;
        return was;
    }

    public int queue(int p, int s) {
        if (!place.hasPerson(p) || !place.hasSaying(s)) {
            return UNKNOWN;
        }
        if (now.queued >= MOST_QUEUED) {
            return FULL;
        }
        past.remember(now);
        now.joinQueue(p, s);
        return now.queued;
    }

    public int turn() {
        if (now.queued == 0) {
            return NOT;
        }
        past.remember(now);
        return now.takeTurn(place);
    }

    public int drift(int n) {
        int refusal = refusalOfNights(n);
        if (refusal != 0) {
            return refusal;
        }
        past.remember(now);
        for (int i = 0; i < n; i++) {
            now.driftAheadOfNight(place, draws);
            now.passNight(place.spring);
        }
        return now.level;
    }

    public int undo() {
        if (past.count == 0) {
            return NOT;
        }
        past.takeBack(now);
        return past.count;
    }

    // ---- tried

    public int state(int holds, int not, int what) {
        if (!place.hasAll(holds) || !place.hasAll(not)) {
            return UNKNOWN;
        }
        if (what < 0 || what > 1) {
            return OUTSIDE;
        }
        int set = now.cheapestFor(place, holds, not);
        return set == NONE || what == 1 ? set : now.pailsFor(place, set);
    }

    public int best(int n, int what) {
        if (n < 0 || n > MOST_PAILS_TRIED || what < 0 || what > 1) {
            return OUTSIDE;
        }
        int set = now.bestFor(place, n);
        return what == 1 ? set : now.worthWith(place, set) + WORTH_SHIFT;
    }

    public int alone(int p, int s) {
        if (!place.hasPerson(p) || !place.hasSaying(s)) {
            return UNKNOWN;
        }
        trial.copyFrom(now);
        return trial.nightsAlone(place, p, s);
    }

    public int wasUnsaid(int holds, int c, int what) {
        if (!place.hasAll(holds)) {
            return UNKNOWN;
        }
        if (c < 0 || c > MOST_WEIGHT_TRIED || what < 0 || what > 2) {
            return OUTSIDE;
        }
        riddle.gather(place, holds, c);
        switch (what) {
            case 0: return riddle.count;
            case 1: return riddle.count == 0 ? NONE : riddle.inEach;
            default: return riddle.frog(place.sayings);
        }
    }

    public int drought(int n) {
        if (n < 0 || n > MOST_LEVEL) {
            return OUTSIDE;
        }
        if (!place.isTold) {
            return NOT;
        }
        for (int nights = 0; nights <= MOST_DRY_NIGHTS; nights++) {
            if (now.level + nights * place.spring >= n) {
                return nights;
            }
        }
        return NONE;
    }

    public int rainy(int n, int q) {
        if (n < 0 || n > MOST_NIGHTS_A_CALL || q < 0 || q > 100) {
            return OUTSIDE;
        }
        long odds = BILLION;
        for (int i = 0; i < n; i++) {
            odds = odds * q / 100;
        }
        return (int) odds;
    }

    // ---- the book

    public int write(int s, boolean holds) {
        if (!place.hasSaying(s)) {
            return UNKNOWN;
        }
        return book.add(s, holds) ? book.count : FULL;
    }

    public int tear() {
        int had = book.count;
        book.count = 0;
        return had;
    }

    public int judge() {
        return book.firstWrong(place.holding(now.unsaid));
    }

    // ---- draws, images

    public int seed(int v) {
        if (v < 0) {
            return OUTSIDE;
        }
        int was = draws.grain;
        draws.grain = v;
        return was;
    }

    public int keep(int i) {
        if (i < 0 || i >= MOST_IMAGES) {
            return UNKNOWN;
        }
        images.take(i, now, draws);
        past.forget();
        return 1;
    }

    public int goBack(int i) {
        if (i < 0 || i >= MOST_IMAGES) {
            return UNKNOWN;
        }
        if (!images.isKept(i)) {
            return NOT;
        }
        images.giveBack(i, now, draws);
        past.forget();
        return 1;
    }

    /** What night() and drift() refuse alike; 0 if they may go on. */
    private int refusalOfNights(int n) {
        if (n < 1 || n > MOST_NIGHTS_A_CALL) {
            return OUTSIDE;
        }
        if (!place.isTold) {
            return NOT;
        }
        return now.nights > NIGHTS_THAT_FILL ? FULL : 0;
    }

    /** THE TEXT, and its reading up to the first FAULT. */
    private static final class Reader {
        private final int[] letters = new int[MOST_LETTERS];
        int length;
        int faultAt = NONE;
        private int faultKind;
        private int at;
        private int numberAt;

        boolean add(int letter) {
            if (length >= letters.length) {
                return false;
            }
            letters[length] = letter;
            length++;
            return true;
        }

        /** Reads and empties THE TEXT; the FAULT's number, 0 if it has none. A yard with a fault is not to be used. */
        int readInto(Yard yard) {
            yard.clear();
            at = 0;
            faultKind = 0;
            faultAt = NONE;
            skipBlanks();
            // Each clause takes a letter at least, so there are no more clauses than letters.
            for (int i = 0; i < MOST_LETTERS && faultKind == 0 && at < length; i++) {
                readClause(yard);
                skipBlanks();
            }
            length = 0;
            return faultKind;
        }

        private void readClause(Yard yard) {
            int word = letterAt(at);
            int kind = faultOfWord(yard, word);
            if (kind != 0) {
                blame(kind, at);
                return;
            }
            at++;
            switch (word) {
                case 'y': readWell(yard); break;
                case 'p': readPerson(yard); break;
                case 's': readSaying(yard); break;
                default: readLink(yard); break;
            }
        }

        private static int faultOfWord(Yard yard, int word) {
            boolean isWord = word == 'y' || word == 'p' || word == 's' || word == 'f';
            if (!isWord || !yard.isTold && word != 'y') {
                return CANNOT_STAND;
            }
            boolean isTooMuch = word == 'y' && yard.isTold
                    || word == 'p' && yard.persons >= MOST_PERSONS
                    || word == 's' && yard.sayings >= MOST_SAYINGS
                    || word == 'f' && yard.links >= MOST_LINKS;
            return isTooMuch ? TOO_MANY : 0;
        }

        private void readWell(Yard yard) {
            int level = readNumber(0, MOST_LEVEL);
            int spring = readNumber(0, MOST_SPRING);
            if (clauseEnds()) {
                yard.isTold = true;
                yard.level = level;
                yard.spring = spring;
            }
        }

        private void readPerson(Yard yard) {
            int arm = readNumber(1, MOST_ARM);
            if (clauseEnds()) {
                yard.addPerson(arm);
            }
        }

        private void readSaying(Yard yard) {
            int owner = readNumber(0, yard.persons - 1);
            int weight = readNumber(1, MOST_WEIGHT);
            int worth = readNumber(0, MOST_TOLD_WORTH) - TOLD_WORTH_OF_NOTHING;
            if (clauseEnds()) {
                yard.addSaying(owner, weight, worth);
            }
        }

        private void readLink(Yard yard) {
            int from = readNumber(0, yard.sayings - 1);
            int to = readNumber(0, yard.sayings - 1);
            if (faultKind == 0 && (from >= to || yard.isLinked(from, to))) {
                blame(WRONG_LINK, numberAt);
            }
            if (clauseEnds()) {
                yard.addLink(from, to);
            }
        }

        /** The NUMBER that comes next; NONE if there is a FAULT, here or ahead of it. */
        private int readNumber(int least, int most) {
            if (faultKind != 0) {
                return NONE;
            }
            skipBlanks();
            numberAt = at;
            int value = 0;
            while (at < length && isFigure(letterAt(at))) {
                // More figures are a FAULT whatever they tell, and must not overflow.
                if (at - numberAt < MOST_FIGURES) {
                    value = value * 10 + letterAt(at) - '0';
                }
                at++;
            }
            int figures = at - numberAt;
            if (figures == 0) {
                blame(CANNOT_STAND, at);
            } else if (figures > MOST_FIGURES || value < least || value > most) {
                blame(WRONG_NUMBER, numberAt);
            }
            return faultKind == 0 ? value : NONE;
        }

        /** Whether the clause came to its ';' without a FAULT. */
        private boolean clauseEnds() {
            if (faultKind != 0) {
                return false;
            }
            skipBlanks();
            if (letterAt(at) != ';') {
                blame(CANNOT_STAND, at);
                return false;
            }
            at++;
            return true;
        }

        private void skipBlanks() {
            while (at < length && letterAt(at) == ' ') {
                at++;
            }
        }

        private void blame(int kind, int where) {
            faultKind = kind;
            faultAt = where;
        }

        private int letterAt(int i) {
            return i >= 0 && i < length && i < letters.length ? letters[i] : NONE;
        }

        private static boolean isFigure(int letter) {
            return letter >= '0' && letter <= '9';
        }
    }

    /** THE YARD as told: what no call but yard() changes. */
    private static final class Yard {
        boolean isTold;
        int level;
        int spring;
        int persons;
        final int[] arms = new int[MOST_PERSONS];
        int sayings;
        final int[] owners = new int[MOST_SAYINGS];
        final int[] weights = new int[MOST_SAYINGS];
        final int[] worths = new int[MOST_SAYINGS];
        /** Of each SAYING the SET from which it FOLLOWS straight; all of these are below it. */
        final int[] sources = new int[MOST_SAYINGS];
        int links;
        private final int[] depths = new int[MOST_SAYINGS];

        void clear() {
            isTold = false;
            level = 0;
            spring = 0;
            persons = 0;
            sayings = 0;
            links = 0;
        }

        void addPerson(int arm) {
            if (persons < MOST_PERSONS) {
                arms[persons] = arm;
                persons++;
            }
        }

        void addSaying(int owner, int weight, int worth) {
            if (sayings < MOST_SAYINGS) {
                owners[sayings] = owner;
                weights[sayings] = weight;
                worths[sayings] = worth;
                sources[sayings] = 0;
                sayings++;
            }
        }

        boolean isLinked(int from, int to) {
            return hasSaying(to) && isIn(from, sources[to]);
        }

        void addLink(int from, int to) {
            if (hasSaying(from) && hasSaying(to)) {
                sources[to] |= 1 << from;
                links++;
            }
        }

        boolean hasPerson(int p) {
            return p >= 0 && p < persons;
        }

        boolean hasSaying(int s) {
            return s >= 0 && s < sayings;
        }

        boolean hasAll(int set) {
            return set >= 0 && set < 1 << sayings;
        }

        static boolean isIn(int s, int set) {
            return (set >> s & 1) != 0;
        }

        /** The SET that HOLDS while just those of a SET are UNSAID. */
        int holding(int unsaid) {
            int holds = 0;
            for (int s = 0; s < sayings; s++) {
                // Sources are below s, so whether they hold is known by now.
                if (!isIn(s, unsaid) && (sources[s] & ~holds) == 0) {
                    holds |= 1 << s;
                }
            }
            return holds;
        }

        int fallsOf(int s, int unsaid) {
            return holding(unsaid) & ~holding(unsaid | 1 << s);
        }

        int heaviest(int unsaid) {
            int heaviest = NONE;
            int most = 0;
            for (int s = 0; s < sayings; s++) {
                // What holds falls with itself at least; what does not hold has no falls.
                int falls = Integer.bitCount(fallsOf(s, unsaid));
                if (falls > most) {
                    most = falls;
                    heaviest = s;
                }
            }
            return heaviest;
        }

        int weightOf(int set) {
            int weight = 0;
            for (int s = 0; s < sayings; s++) {
                weight += isIn(s, set) ? weights[s] : 0;
            }
            return weight;
        }

        int worthOf(int set) {
            int worth = 0;
            for (int s = 0; s < sayings; s++) {
                worth += isIn(s, set) ? worths[s] : 0;
            }
            return worth;
        }

        int depthOf(int saying) {
            int depth = 0;
            for (int s = 0; s < sayings && s <= saying; s++) {
                depth = 0;
                for (int from = 0; from < s; from++) {
                    if (isIn(from, sources[s])) {
                        depth = Math.max(depth, depths[from] + 1);
                    }
                }
                depths[s] = depth;
            }
            return depth;
        }

        int rootsOf(int saying) {
            int comesFrom = 1 << saying;
            int roots = 0;
            for (int s = sayings - 1; s >= 0; s--) {
                if (isIn(s, comesFrom)) {
                    comesFrom |= sources[s];
                    roots |= sources[s] == 0 ? 1 << s : 0;
                }
            }
            return roots;
        }

        int sayingsOf(int p) {
            int set = 0;
            for (int s = 0; s < sayings; s++) {
                set |= owners[s] == p ? 1 << s : 0;
            }
            return set;
        }

        int leansOf(int p) {
            int straight = 0;
            for (int s = 0; s < sayings; s++) {
                straight |= owners[s] == p ? sources[s] : 0;
            }
            int leans = 0;
            for (int s = 0; s < sayings; s++) {
                leans |= isIn(s, straight) && owners[s] != p ? 1 << owners[s] : 0;
            }
            return leans;
        }

        int shareOf(int p, int water) {
            int all = 0;
            for (int i = 0; i < persons; i++) {
                all += arms[i];
            }
            if (all == 0 || !hasPerson(p)) {
                return 0;
            }
            int left = water;
            for (int i = 0; i < persons; i++) {
                left -= water * arms[i] / all;
            }
            return water * arms[p] / all + (p < left ? 1 : 0);
        }
    }

    /** All of the document's section 2: what is so now, in a trial, in the past or in an IMAGE. */
    private static final class Well {
        int level;
        int rain;
        int cobbles;
        int nights;
        int unsaid;
        int vowed;
        final int[] wet = new int[MOST_SAYINGS];
        int queued;
        final int[] queuedPersons = new int[MOST_QUEUED];
        final int[] queuedSayings = new int[MOST_QUEUED];

        void begin(Yard yard) {
            level = yard.level;
            rain = 0;
            cobbles = 0;
            nights = 0;
            unsaid = 0;
            vowed = 0;
            queued = 0;
            for (int s = 0; s < wet.length; s++) {
                wet[s] = 0;
            }
        }

        void copyFrom(Well other) {
            level = other.level;
            rain = other.rain;
            cobbles = other.cobbles;
            nights = other.nights;
            unsaid = other.unsaid;
            vowed = other.vowed;
            queued = other.queued;
            System.arraycopy(other.wet, 0, wet, 0, MOST_SAYINGS);
            System.arraycopy(other.queuedPersons, 0, queuedPersons, 0, MOST_QUEUED);
            System.arraycopy(other.queuedSayings, 0, queuedSayings, 0, MOST_QUEUED);
        }

        /** Pails that this PERSON would draw for this SAYING, 0 if he can pour nothing on it. */
        int drawable(Yard yard, int p, int s) {
            if (!yard.hasPerson(p) || !yard.hasSaying(s) || Yard.isIn(s, unsaid | vowed)) {
                return 0;
            }
            int missing = yard.weights[s] - wet[s];
            int reach = Math.min(yard.arms[p], level);
            return yard.owners[s] == p ? Math.min(missing, reach) : Math.min(2 * missing, reach / 2 * 2);
        }

        int pourOn(Yard yard, int p, int s) {
            int drawn = drawable(yard, p, s);
            if (drawn == 0) {
                return 0;
            }
            level -= drawn;
            cobbles += drawn;
            wet[s] += yard.owners[s] == p ? drawn : drawn / 2;
            if (wet[s] >= yard.weights[s]) {
                unsaid |= 1 << s;
                wet[s] = 0;
            }
            return drawn;
        }

        int sayAgain(int s) {
            if (s < 0 || s >= wet.length) {
                return 0;
            }
            int was = wet[s];
            wet[s] = 0;
            unsaid &= ~(1 << s);
            return was;
        }

        void passNight(int spring) {
            level = Math.min(level + spring + rain, MOST_LEVEL);
            cobbles = 0;
            rain = rain / 2;
            nights++;
        }

        void joinQueue(int p, int s) {
            if (queued < MOST_QUEUED) {
                queuedPersons[queued] = p;
                queuedSayings[queued] = s;
                queued++;
            }
        }

        int takeTurn(Yard yard) {
            int p = queuedPersons[0];
            int s = queuedSayings[0];
            int drawn = pourOn(yard, p, s);
            leaveQueue();
            if (drawn > 0 && !Yard.isIn(s, unsaid)) {
                joinQueue(p, s);
            }
            return drawn;
        }

        private void leaveQueue() {
            for (int i = 1; i < queued && i < MOST_QUEUED; i++) {
                queuedPersons[i - 1] = queuedPersons[i];
                queuedSayings[i - 1] = queuedSayings[i];
            }
            queued = Math.max(queued - 1, 0);
        }

        void driftAheadOfNight(Yard yard, Draws draws) {
            if (yard.persons > 0 && yard.sayings > 0) {
                for (int i = 0; i < 3; i++) {
                    int p = draws.next(yard.persons);
                    int s = draws.next(yard.sayings);
                    pourOn(yard, p, s);
                }
            }
            int chance = draws.next(4);
            if (chance == 0) {
                rain = draws.next(30);
            } else if (chance == 1 && yard.sayings > 0) {
                sayAgain(draws.next(yard.sayings));
            }
        }

        /** Behind how many NIGHTS one alone has unsaid it; it is this well that he empties. */
        int nightsAlone(Yard yard, int p, int s) {
            if (Yard.isIn(s, unsaid)) {
                return NONE;
            }
            for (int nightsPassed = 0; nightsPassed <= MOST_NIGHTS_A_CALL; nightsPassed++) {
                // Each pouring wets it by 1 at least, so these suffice.
                for (int i = 0; i < MOST_WEIGHT && drawable(yard, p, s) > 0; i++) {
                    pourOn(yard, p, s);
                }
                if (Yard.isIn(s, unsaid)) {
                    return nightsPassed;
                }
                passNight(yard.spring);
            }
            return NONE;
        }

        private boolean canBeUnsaid(int set) {
            return (set & (unsaid | vowed)) == 0;
        }

        int pailsFor(Yard yard, int set) {
            int pails = 0;
            for (int s = 0; s < yard.sayings; s++) {
                pails += Yard.isIn(s, set) ? yard.weights[s] - wet[s] : 0;
            }
            return pails;
        }

        int worthWith(Yard yard, int set) {
            return yard.worthOf(yard.holding(unsaid | set));
        }

        private boolean isSoWith(Yard yard, int set, int holds, int not) {
            int held = yard.holding(unsaid | set);
            return (held & holds) == holds && (held & not) == 0;
        }

        /** The SET, unsaid for the fewest pails, by which all of one SET hold and none of the other; NONE. */
        int cheapestFor(Yard yard, int holds, int not) {
            int cheapest = NONE;
            int fewest = 0;
            for (int set = 0; set < 1 << yard.sayings; set++) {
                if (canBeUnsaid(set) && isSoWith(yard, set, holds, not)) {
                    int pails = pailsFor(yard, set);
                    if (cheapest == NONE || pails < fewest) {
                        cheapest = set;
                        fewest = pails;
                    }
                }
            }
            return cheapest;
        }

        /** The SET that can be unsaid for so many pails at most and leaves the most WORTH. */
        int bestFor(Yard yard, int pails) {
            int best = 0;
            int most = worthWith(yard, 0);
            for (int set = 1; set < 1 << yard.sayings; set++) {
                if (canBeUnsaid(set) && pailsFor(yard, set) <= pails) {
                    int worth = worthWith(yard, set);
                    if (worth > most) {
                        best = set;
                        most = worth;
                    }
                }
            }
            return best;
        }
    }

    /** What can be undone: a ring, so that the oldest is lost where a newer one comes. */
    private static final class Past {
        private final Well[] wells = new Well[MOST_UNDONE];
        private int next;
        int count;

        Past() {
            for (int i = 0; i < MOST_UNDONE; i++) {
                wells[i] = new Well();
            }
        }

        void remember(Well well) {
            Well slot = wells[next];
            if (slot != null) {
                slot.copyFrom(well);
                next = (next + 1) % MOST_UNDONE;
                count = Math.min(count + 1, MOST_UNDONE);
            }
        }

        void takeBack(Well well) {
            int latest = (next + MOST_UNDONE - 1) % MOST_UNDONE;
            Well slot = wells[latest];
            if (count > 0 && slot != null) {
                well.copyFrom(slot);
                next = latest;
                count--;
            }
        }

        void forget() {
            count = 0;
        }
    }

    /** THE BOOK. */
    private static final class Book {
        int count;
        private final int[] sayings = new int[MOST_ENTRIES];
        private final boolean[] holds = new boolean[MOST_ENTRIES];

        boolean add(int s, boolean is) {
            if (count >= MOST_ENTRIES) {
                return false;
            }
            sayings[count] = s;
            holds[count] = is;
            count++;
            return true;
        }

        int firstWrong(int holding) {
            for (int i = 0; i < count && i < MOST_ENTRIES; i++) {
                if (Yard.isIn(sayings[i], holding) != holds[i]) {
                    return i;
                }
            }
            return NONE;
        }
    }

    /** THE SEED. */
    private static final class Draws {
        int grain;

        int next(int n) {
            grain = (int) ((grain * 1103515245L + 12345L) & 0x7FFFFFFFL);
            return n > 0 ? grain / 65536 % n : 0;
        }
    }

    /** The IMAGES. */
    private static final class Images {
        private final Well[] wells = new Well[MOST_IMAGES];
        private final int[] grains = new int[MOST_IMAGES];
        private final boolean[] kept = new boolean[MOST_IMAGES];

        Images() {
            for (int i = 0; i < MOST_IMAGES; i++) {
                wells[i] = new Well();
            }
        }

        boolean isKept(int i) {
            return i >= 0 && i < MOST_IMAGES && wells[i] != null && kept[i];
        }

        void take(int i, Well well, Draws draws) {
            if (i >= 0 && i < MOST_IMAGES && wells[i] != null) {
                wells[i].copyFrom(well);
                grains[i] = draws.grain;
                kept[i] = true;
            }
        }

        void giveBack(int i, Well well, Draws draws) {
            if (isKept(i)) {
                well.copyFrom(wells[i]);
                draws.grain = grains[i];
            }
        }

        void forget() {
            for (int i = 0; i < MOST_IMAGES; i++) {
                kept[i] = false;
            }
        }
    }

    /** What WAS UNSAID: all SETS that fit what holds and the wet cobbles. */
    private static final class Riddle {
        int count;
        int inEach;
        private final int[] with = new int[MOST_SAYINGS];

        void gather(Yard yard, int holds, int weight) {
            count = 0;
            inEach = NONE;
            for (int s = 0; s < MOST_SAYINGS; s++) {
                with[s] = 0;
            }
            for (int set = 0; set < 1 << yard.sayings; set++) {
                // What is unsaid does not hold: most sets need no closer look.
                if ((set & holds) == 0 && yard.weightOf(set) == weight && yard.holding(set) == holds) {
                    tally(set);
                }
            }
        }

        private void tally(int set) {
            count++;
            inEach &= set;
            for (int s = 0; s < MOST_SAYINGS; s++) {
                with[s] += set >> s & 1;
            }
        }

        int frog(int sayings) {
            int frog = NONE;
            // A saying in all of them, or in none, leaves all alike and parts nothing.
            int least = count;
            for (int s = 0; s < sayings && s < MOST_SAYINGS; s++) {
                int alike = Math.max(with[s], count - with[s]);
                if (alike < least) {
                    least = alike;
                    frog = s;
                }
            }
            return frog;
        }
    }
}
