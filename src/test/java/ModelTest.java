import java.math.BigInteger;
import java.util.ArrayDeque;
import java.util.ArrayList;
import java.util.Arrays;
import java.util.Deque;
import java.util.List;
import java.util.Random;
import java.util.TreeSet;

/** Runs of drawn calls, each answer held against a second program written from the document alone. */
public final class ModelTest {
    private static final int NONE = -1, UNKNOWN = -1000000001, OUTSIDE = -1000000002, NOT = -1000000003, FULL = -1000000004;
    private static final int RUNS = 3000;
    private static final int CALLS = 512;

    private static final class Fault extends RuntimeException {
        private static final long serialVersionUID = 1L;
        final int kind;
        final int at;

        Fault(int kind, int at) {
            this.kind = kind;
            this.at = at;
        }
    }

    private static final class Saying {
        int owner;
        int weight;
        int worth;
        final TreeSet<Integer> from = new TreeSet<>();
    }

    private static final class Yard {
        boolean is;
        int level;
        int spring;
        int links;
        final List<Integer> arms = new ArrayList<>();
        final List<Saying> sayings = new ArrayList<>();
    }

    private static final class State {
        int level;
        int rain;
        int cobbles;
        int nights;
        boolean[] unsaid = new boolean[10];
        boolean[] vowed = new boolean[10];
        int[] wet = new int[10];
        List<int[]> queue = new ArrayList<>();

        State copy() {
            State c = new State();
            c.level = level;
            c.rain = rain;
            c.cobbles = cobbles;
            c.nights = nights;
            c.unsaid = unsaid.clone();
            c.vowed = vowed.clone();
            c.wet = wet.clone();
            c.queue = new ArrayList<>(queue);
            return c;
        }
    }

    /** Reads a text by backtracking nowhere: a cursor, and a fault thrown where it is met. */
    private static final class Parser {
        final String text;
        int i = 0;

        Parser(String text) {
            this.text = text;
        }

        void blanks() {
            while (i < text.length() && text.charAt(i) == ' ') {
                i++;
            }
        }

        int[] number() {
            blanks();
            int first = i;
            while (i < text.length() && "0123456789".indexOf(text.charAt(i)) >= 0) {
                i++;
            }
            if (first == i) {
                throw new Fault(1, i);
            }
            BigInteger n = new BigInteger(text.substring(first, i));
            if (i - first > 3) {
                throw new Fault(2, first);
            }
            return new int[] {n.intValue(), first};
        }

        int number(int low, int high) {
            int[] n = number();
            if (n[0] < low || n[0] > high) {
                throw new Fault(2, n[1]);
            }
            return n[0];
        }

        void end() {
            blanks();
            if (i >= text.length() || text.charAt(i) != ';') {
                throw new Fault(1, i);
            }
            i++;
        }

        Yard yard() {
            Yard y = new Yard();
            blanks();
            while (i < text.length()) {
                char word = text.charAt(i);
                if ("ypsf".indexOf(word) < 0 || word != 'y' && !y.is) {
                    throw new Fault(1, i);
                }
                int most = word == 'y' ? 1 : word == 'p' ? 5 : word == 's' ? 10 : 15;
                int have = word == 'y' ? (y.is ? 1 : 0) : word == 'p' ? y.arms.size() : word == 's' ? y.sayings.size() : y.links;
                if (have == most) {
                    throw new Fault(3, i);
                }
                i++;
                clause(y, word);
                end();
                blanks();
            }
            return y;
        }

        void clause(Yard y, char word) {
            if (word == 'y') {
                y.is = true;
                y.level = number(0, 99);
                y.spring = number(0, 20);
            } else if (word == 'p') {
                y.arms.add(number(1, 9));
            } else if (word == 's') {
                Saying s = new Saying();
                s.owner = number(0, y.arms.size() - 1);
                s.weight = number(1, 20);
                s.worth = number(0, 99) - 50;
                y.sayings.add(s);
            } else {
                int a = number(0, y.sayings.size() - 1);
                blanks();
                int at = i;
                int b = number(0, y.sayings.size() - 1);
                if (a >= b || !y.sayings.get(b).from.add(a)) {
                    throw new Fault(4, at);
                }
                y.links++;
            }
        }
    }

    private static final class Model {
        final StringBuilder text = new StringBuilder();
        int fault = NONE;
        Yard y = new Yard();
        State st = new State();
        final Deque<State> past = new ArrayDeque<>();
        final State[] images = new State[2];
        final long[] imageSeeds = new long[2];
        final List<int[]> book = new ArrayList<>();
        BigInteger seed = BigInteger.ZERO;

        int ask(int method, int a, int b, int c) {
            switch (method) {
                case 0: return feed(a);
                case 1: return yard();
                case 2: return fault;
                case 3: return told(a);
                case 4: return saying(a, b);
                case 5: return person(a, b);
                case 6: return b != 0 && b != 1 ? OUTSIDE : a < 0 || a >= st.queue.size() ? NONE : st.queue.get(a)[b];
                case 7: return pour(a, b);
                case 8: return say(a);
                case 9: return vow(a, b != 0);
                case 10: return nights(a, false);
                case 11: return rain(a);
                case 12: return queue(a, b);
                case 13: return turn();
                case 14: return nights(a, true);
                case 15: return undo();
                case 16: return state(a, b, c);
                case 17: return best(a, b);
                case 18: return alone(a, b);
                case 19: return wasUnsaid(a, b, c);
                case 20: return drought(a);
                case 21: return rainy(a, b);
                case 22: return write(a, b != 0);
                case 23: return tear();
                case 24: return judge();
                case 25: return seed(a);
                case 26: return keep(a);
                default: return goBack(a);
            }
        }

        boolean noPerson(int p) {
            return p < 0 || p >= y.arms.size();
        }

        boolean noSaying(int s) {
            return s < 0 || s >= y.sayings.size();
        }

        boolean noSet(int set) {
            for (int k = 0; k < 32; k++) {
                if ((set >>> k & 1) == 1 && noSaying(k)) {
                    return true;
                }
            }
            return false;
        }

        boolean holds(int s, boolean[] unsaid) {
            if (unsaid[s]) {
                return false;
            }
            for (int a : y.sayings.get(s).from) {
                if (!holds(a, unsaid)) {
                    return false;
                }
            }
            return true;
        }

        int holding(boolean[] unsaid) {
            int set = 0;
            for (int s = 0; s < y.sayings.size(); s++) {
                set += holds(s, unsaid) ? 1 << s : 0;
            }
            return set;
        }

        static int setOf(boolean[] row) {
            int set = 0;
            for (int s = 0; s < row.length; s++) {
                set += row[s] ? 1 << s : 0;
            }
            return set;
        }

        static boolean[] rowOf(int set) {
            boolean[] row = new boolean[10];
            for (int s = 0; s < 10; s++) {
                row[s] = (set & 1 << s) != 0;
            }
            return row;
        }

        int worth(int set) {
            int sum = 0;
            for (int s = 0; s < y.sayings.size(); s++) {
                sum += (set & 1 << s) != 0 ? y.sayings.get(s).worth : 0;
            }
            return sum;
        }

        void did() {
            past.addLast(st.copy());
            if (past.size() > 16) {
                past.removeFirst();
            }
        }

        int feed(int letter) {
            if (letter < 0 || letter > 255) {
                return OUTSIDE;
            }
            if (text.length() == 240) {
                return FULL;
            }
            text.append((char) letter);
            return text.length();
        }

        int yard() {
            String all = text.toString();
            text.setLength(0);
            try {
                y = new Parser(all).yard();
            } catch (Fault f) {
                fault = f.at;
                return -10 - f.kind;
            }
            fault = NONE;
            st = new State();
            st.level = y.level;
            past.clear();
            book.clear();
            Arrays.fill(images, null);
            return y.sayings.size();
        }

        int told(int what) {
            int h = holding(st.unsaid);
            int[] all = {y.arms.size(), y.sayings.size(), y.links, text.length(), st.nights, st.level, st.rain, h,
                setOf(st.unsaid), setOf(st.vowed), st.cobbles, worth(h) + 1000, heaviest(), st.queue.size(), book.size(),
                past.size(), y.spring};
            return what < 0 || what >= all.length ? OUTSIDE : all[what];
        }

        int falls(int s) {
            boolean[] then = st.unsaid.clone();
            then[s] = true;
            return holding(st.unsaid) - holding(then);
        }

        int heaviest() {
            int best = NONE;
            for (int s = y.sayings.size() - 1; s >= 0; s--) {
                if (holds(s, st.unsaid) && (best == NONE || Integer.bitCount(falls(s)) >= Integer.bitCount(falls(best)))) {
                    best = s;
                }
            }
            return best;
        }

        int depth(int s) {
            int d = 0;
            for (int a : y.sayings.get(s).from) {
                d = Math.max(d, 1 + depth(a));
            }
            return d;
        }

        int roots(int s) {
            if (y.sayings.get(s).from.isEmpty()) {
                return 1 << s;
            }
            int set = 0;
            for (int a : y.sayings.get(s).from) {
                set |= roots(a);
            }
            return set;
        }

        int saying(int s, int what) {
            if (noSaying(s)) {
                return UNKNOWN;
            }
            Saying it = y.sayings.get(s);
            int from = 0;
            for (int a : it.from) {
                from |= 1 << a;
            }
            int[] all = {it.owner, it.weight, it.worth + 1000, st.wet[s], depth(s), roots(s), falls(s), from};
            return what < 0 || what >= all.length ? OUTSIDE : all[what];
        }

        int person(int p, int what) {
            if (noPerson(p)) {
                return UNKNOWN;
            }
            int his = 0;
            int leans = 0;
            for (int s = 0; s < y.sayings.size(); s++) {
                if (y.sayings.get(s).owner == p) {
                    his |= 1 << s;
                    for (int a : y.sayings.get(s).from) {
                        leans |= 1 << y.sayings.get(a).owner;
                    }
                }
            }
            int[] all = {y.arms.get(p), his, leans & ~(1 << p), shares()[p]};
            return what < 0 || what >= all.length ? OUTSIDE : all[what];
        }

        int[] shares() {
            int sum = y.arms.stream().mapToInt(Integer::intValue).sum();
            int[] shares = y.arms.stream().mapToInt(arm -> st.level * arm / sum).toArray();
            int left = st.level - Arrays.stream(shares).sum();
            for (int p = 0; left > 0; p++, left--) {
                shares[p]++;
            }
            return shares;
        }

        /** Pails one by one, as a person with a bucket would. */
        int poured(State at, int p, int s) {
            if (at.unsaid[s] || at.vowed[s]) {
                return 0;
            }
            int step = y.sayings.get(s).owner == p ? 1 : 2;
            int drawn = 0;
            while (drawn + step <= y.arms.get(p) && step <= at.level && !at.unsaid[s]) {
                drawn += step;
                at.level -= step;
                at.cobbles += step;
                at.wet[s]++;
                if (at.wet[s] == y.sayings.get(s).weight) {
                    at.unsaid[s] = true;
                    at.wet[s] = 0;
                }
            }
            return drawn;
        }

        int pour(int p, int s) {
            if (noPerson(p) || noSaying(s)) {
                return UNKNOWN;
            }
            if (poured(st.copy(), p, s) == 0) {
                return NOT;
            }
            did();
            return poured(st, p, s);
        }

        int saidAgain(int s) {
            int was = st.wet[s];
            st.wet[s] = 0;
            st.unsaid[s] = false;
            return was;
        }

        int say(int s) {
            if (noSaying(s)) {
                return UNKNOWN;
            }
            did();
            return saidAgain(s);
        }

        int vow(int s, boolean is) {
            if (noSaying(s)) {
                return UNKNOWN;
            }
            did();
            int was = st.vowed[s] ? 1 : 0;
            st.vowed[s] = is;
            return was;
        }

        void passNight(State at) {
            at.level += y.spring + at.rain;
            if (at.level > 99) {
                at.level = 99;
            }
            at.cobbles = 0;
            at.rain /= 2;
            at.nights++;
        }

        int draw(int n) {
            seed = seed.multiply(BigInteger.valueOf(1103515245)).add(BigInteger.valueOf(12345)).mod(BigInteger.TWO.pow(31));
            return seed.divide(BigInteger.valueOf(65536)).mod(BigInteger.valueOf(n)).intValue();
        }

        int nights(int n, boolean byDraws) {
            if (n < 1 || n > 60) {
                return OUTSIDE;
            }
            if (!y.is) {
                return NOT;
            }
            if (st.nights > 9000) {
                return FULL;
            }
            did();
            for (int i = 0; i < n; i++) {
                if (byDraws) {
                    aheadByDraws();
                }
                passNight(st);
            }
            return st.level;
        }

        void aheadByDraws() {
            boolean some = !y.arms.isEmpty() && !y.sayings.isEmpty();
            for (int i = 0; i < 3 && some; i++) {
                int p = draw(y.arms.size());
                int s = draw(y.sayings.size());
                poured(st, p, s);
            }
            int chance = draw(4);
            if (chance == 0) {
                st.rain = draw(30);
            }
            if (chance == 1 && !y.sayings.isEmpty()) {
                saidAgain(draw(y.sayings.size()));
            }
        }

        int rain(int n) {
            if (n < 0 || n > 99) {
                return OUTSIDE;
            }
            if (!y.is) {
                return NOT;
            }
            did();
            int was = st.rain;
            st.rain = n;
            return was;
        }

        int queue(int p, int s) {
            if (noPerson(p) || noSaying(s)) {
                return UNKNOWN;
            }
            if (st.queue.size() == 6) {
                return FULL;
            }
            did();
            st.queue.add(new int[] {p, s});
            return st.queue.size();
        }

        int turn() {
            if (st.queue.isEmpty()) {
                return NOT;
            }
            did();
            int[] first = st.queue.remove(0);
            int drawn = poured(st, first[0], first[1]);
            if (drawn != 0 && !st.unsaid[first[1]]) {
                st.queue.add(first);
            }
            return drawn;
        }

        int undo() {
            if (past.isEmpty()) {
                return NOT;
            }
            st = past.removeLast();
            return past.size();
        }

        int pails(int set) {
            int sum = 0;
            for (int s = 0; s < y.sayings.size(); s++) {
                if ((set & 1 << s) != 0) {
                    if (st.unsaid[s] || st.vowed[s]) {
                        return NONE;
                    }
                    sum += y.sayings.get(s).weight - st.wet[s];
                }
            }
            return sum;
        }

        int state(int hold, int not, int what) {
            if (noSet(hold) || noSet(not)) {
                return UNKNOWN;
            }
            if (what != 0 && what != 1) {
                return OUTSIDE;
            }
            int[] best = null;
            for (int set = (1 << y.sayings.size()) - 1; set >= 0; set--) {
                int pails = pails(set);
                if (pails != NONE && (best == null || pails <= best[0])) {
                    int h = holding(rowOf(setOf(st.unsaid) | set));
                    if ((h | hold) == h && (h & not) == 0) {
                        best = new int[] {pails, set};
                    }
                }
            }
            return best == null ? NONE : best[what];
        }

        int best(int n, int what) {
            if (n < 0 || n > 99 || what != 0 && what != 1) {
                return OUTSIDE;
            }
            int[] best = null;
            for (int set = (1 << y.sayings.size()) - 1; set >= 0; set--) {
                int pails = pails(set);
                if (pails != NONE && pails <= n) {
                    int worth = 1000 + worth(holding(rowOf(setOf(st.unsaid) | set)));
                    if (best == null || worth >= best[0]) {
                        best = new int[] {worth, set};
                    }
                }
            }
            return best[what];
        }

        int alone(int p, int s) {
            if (noPerson(p) || noSaying(s)) {
                return UNKNOWN;
            }
            State at = st.copy();
            if (at.unsaid[s] || at.vowed[s]) {
                return NONE;
            }
            for (int nights = 0; nights <= 60; nights++) {
                int drawn;
                do {
                    drawn = poured(at, p, s);
                } while (drawn > 0);
                if (at.unsaid[s]) {
                    return nights;
                }
                passNight(at);
            }
            return NONE;
        }

        int wasUnsaid(int hold, int c, int what) {
            if (noSet(hold)) {
                return UNKNOWN;
            }
            if (c < 0 || c > 200 || what < 0 || what > 2) {
                return OUTSIDE;
            }
            List<Integer> sets = new ArrayList<>();
            for (int set = 0; set < 1 << y.sayings.size(); set++) {
                int weight = 0;
                for (int s = 0; s < y.sayings.size(); s++) {
                    weight += (set & 1 << s) != 0 ? y.sayings.get(s).weight : 0;
                }
                if (weight == c && holding(rowOf(set)) == hold) {
                    sets.add(set);
                }
            }
            if (what == 0) {
                return sets.size();
            }
            if (what == 1) {
                return sets.stream().reduce((a, b) -> a & b).orElse(NONE);
            }
            int frog = NONE;
            int least = 0;
            for (int s = 0; s < y.sayings.size(); s++) {
                int bit = 1 << s;
                int with = (int) sets.stream().filter(set -> (set & bit) != 0).count();
                int without = sets.size() - with;
                if (with > 0 && without > 0 && (frog == NONE || Math.max(with, without) < least)) {
                    frog = s;
                    least = Math.max(with, without);
                }
            }
            return frog;
        }

        int drought(int n) {
            if (n < 0 || n > 99) {
                return OUTSIDE;
            }
            if (!y.is) {
                return NOT;
            }
            State at = st.copy();
            at.rain = 0;
            for (int nights = 0; nights <= 99; nights++) {
                if (at.level >= n) {
                    return nights;
                }
                passNight(at);
            }
            return NONE;
        }

        int rainy(int n, int q) {
            if (n < 0 || n > 60 || q < 0 || q > 100) {
                return OUTSIDE;
            }
            BigInteger odds = BigInteger.valueOf(1000000000);
            for (int i = 0; i < n; i++) {
                odds = odds.multiply(BigInteger.valueOf(q)).divide(BigInteger.valueOf(100));
            }
            return odds.intValue();
        }

        int write(int s, boolean is) {
            if (noSaying(s)) {
                return UNKNOWN;
            }
            if (book.size() == 15) {
                return FULL;
            }
            book.add(new int[] {s, is ? 1 : 0});
            return book.size();
        }

        int tear() {
            int had = book.size();
            book.clear();
            return had;
        }

        int judge() {
            for (int[] entry : book) {
                if (holds(entry[0], st.unsaid) != (entry[1] == 1)) {
                    return book.indexOf(entry);
                }
            }
            return NONE;
        }

        int seed(int v) {
            if (v < 0) {
                return OUTSIDE;
            }
            int was = seed.intValueExact();
            seed = BigInteger.valueOf(v);
            return was;
        }

        int keep(int i) {
            if (i != 0 && i != 1) {
                return UNKNOWN;
            }
            images[i] = st.copy();
            imageSeeds[i] = seed.longValueExact();
            past.clear();
            return 1;
        }

        int goBack(int i) {
            if (i != 0 && i != 1) {
                return UNKNOWN;
            }
            if (images[i] == null) {
                return NOT;
            }
            st = images[i].copy();
            seed = BigInteger.valueOf(imageSeeds[i]);
            past.clear();
            return 1;
        }
    }

    private static int ask(UnsaidWell x, int method, int a, int b, int c) {
        switch (method) {
            case 0: return x.feed(a);
            case 1: return x.yard();
            case 2: return x.fault();
            case 3: return x.told(a);
            case 4: return x.saying(a, b);
            case 5: return x.person(a, b);
            case 6: return x.queued(a, b);
            case 7: return x.pour(a, b);
            case 8: return x.say(a);
            case 9: return x.vow(a, b != 0);
            case 10: return x.night(a);
            case 11: return x.rain(a);
            case 12: return x.queue(a, b);
            case 13: return x.turn();
            case 14: return x.drift(a);
            case 15: return x.undo();
            case 16: return x.state(a, b, c);
            case 17: return x.best(a, b);
            case 18: return x.alone(a, b);
            case 19: return x.wasUnsaid(a, b, c);
            case 20: return x.drought(a);
            case 21: return x.rainy(a, b);
            case 22: return x.write(a, b != 0);
            case 23: return x.tear();
            case 24: return x.judge();
            case 25: return x.seed(a);
            case 26: return x.keep(a);
            default: return x.goBack(a);
        }
    }

    private static final String[] NAMES = {
        "feed", "yard", "fault", "told", "saying", "person", "queued", "pour", "say", "vow", "night", "rain", "queue",
        "turn", "drift", "undo", "state", "best", "alone", "wasUnsaid", "drought", "rainy", "write", "tear", "judge",
        "seed", "keep", "goBack"};

    /** One run: an object of each kind, and how many calls it has had. */
    private static final class Run {
        final Random random;
        final UnsaidWell x = new UnsaidWell();
        final Model model = new Model();
        final StringBuilder trace = new StringBuilder();
        int calls = 0;
        boolean wrong = false;

        Run(long seed) {
            random = new Random(seed);
        }

        int call(int method, int a, int b, int c) {
            calls++;
            int want = model.ask(method, a, b, c);
            int got = ask(x, method, a, b, c);
            if (method == 0) {
                trace.append((char) a);
            } else {
                trace.append("\n  ").append(NAMES[method]).append('(').append(a).append(", ").append(b).append(", ").append(c)
                    .append(") ").append(got).append(' ');
            }
            if (got != want) {
                wrong = true;
                trace.append(" due is ").append(want);
            }
            return want;
        }

        int upTo(int n) {
            return random.nextInt(n + 1);
        }

        String blanks() {
            return random.nextInt(12) == 0 ? " ".repeat(1 + upTo(2)) : "";
        }

        String number(int n) {
            return blanks() + (random.nextInt(30) == 0 && n < 100 ? "0" + n : "" + n);
        }

        String goodText() {
            StringBuilder t = new StringBuilder(blanks() + "y" + number(upTo(99)) + " " + number(upTo(20)) + blanks() + ";");
            int persons = upTo(5);
            int sayings = persons == 0 ? 0 : upTo(10);
            for (int p = 0; p < persons; p++) {
                t.append('p').append(number(1 + upTo(8))).append(blanks()).append(';');
            }
            int worths = random.nextBoolean() ? 99 : 3;
            int weights = random.nextBoolean() ? 19 : 3;
            for (int s = 0; s < sayings; s++) {
                int worth = worths == 3 ? 49 + upTo(2) : upTo(99);
                t.append('s').append(number(upTo(persons - 1))).append(' ').append(number(1 + upTo(weights)))
                    .append(' ').append(number(worth)).append(';').append(blanks());
            }
            TreeSet<String> told = new TreeSet<>();
            for (int k = upTo(15); k > 0 && sayings > 1; k--) {
                int b = 1 + upTo(sayings - 2);
                int a = upTo(b - 1);
                if (told.add(a + " " + b)) {
                    t.append('f').append(number(a)).append(' ').append(number(b)).append(';');
                }
            }
            return t.toString();
        }

        String text() {
            StringBuilder t = new StringBuilder(goodText());
            if (random.nextInt(3) != 0) {
                return t.toString();
            }
            String signs = "ypsf;;  0123456789x" + (char) 200 + (char) 0;
            for (int k = upTo(2); k >= 0 && t.length() > 0; k--) {
                int at = upTo(t.length() - 1);
                char sign = signs.charAt(upTo(signs.length() - 1));
                switch (upTo(4)) {
                    case 0: t.setCharAt(at, sign); break;
                    case 1: t.insert(at, sign); break;
                    case 2: t.deleteCharAt(at); break;
                    case 3: t.setLength(at); break;
                    default: t.append(goodText().substring(5)); break;
                }
            }
            return t.toString();
        }

        void feedAll(String text) {
            for (int i = 0; i < text.length() && calls < CALLS; i++) {
                call(0, text.charAt(i), 0, 0);
            }
        }

        void newYard() {
            feedAll(text());
            if (calls + 2 < CALLS) {
                call(1, 0, 0, 0);
                call(2, 0, 0, 0);
            }
        }

        int some(int n) {
            int odd = random.nextInt(25);
            return odd == 0 ? -1 : odd == 1 ? n : n == 0 ? 0 : random.nextInt(n);
        }

        int someSet() {
            int n = model.y.sayings.size();
            int odd = random.nextInt(40);
            return odd == 0 ? -1 : odd == 1 ? 1 << n : odd == 2 ? random.nextInt() : random.nextInt(1 << n);
        }

        int fewSet() {
            return random.nextInt(3) == 0 ? someSet() : someSet() & someSet() & someSet();
        }

        void callOne() {
            int p = some(model.y.arms.size());
            int s = some(model.y.sayings.size());
            int method = 3 + random.nextInt(25);
            switch (method) {
                case 3: call(3, some(17), 0, 0); break;
                case 4: call(4, s, some(8), 0); break;
                case 5: call(5, p, some(4), 0); break;
                case 6: call(6, some(6), some(2), 0); break;
                case 8: case 9: case 22: call(method, s, upTo(1), 0); break;
                case 10: case 14: call(method, random.nextInt(8) == 0 ? some(62) : some(4), 0, 0); break;
                case 11: case 20: call(method, some(100), 0, 0); break;
                case 16: call(16, fewSet(), fewSet(), some(2)); break;
                case 17: call(17, some(random.nextBoolean() ? 100 : 30), some(2), 0); break;
                case 19: wasUnsaid(); break;
                case 21: call(21, some(61), some(101), 0); break;
                case 25: call(25, random.nextInt(), 0, 0); break;
                case 26: case 27: image(method); break;
                case 23: call(random.nextInt(6) == 0 ? 23 : 24, 0, 0, 0); break;
                default: call(method, p, s, 0); break;
            }
        }

        /** Sets that fit are rare, so most are made from one that fits. */
        void wasUnsaid() {
            int n = model.y.sayings.size();
            int set = random.nextInt(1 << n);
            int c = 0;
            for (int s = 0; s < n; s++) {
                c += (set & 1 << s) != 0 ? model.y.sayings.get(s).weight : 0;
            }
            if (random.nextInt(6) == 0) {
                call(19, someSet(), some(201), some(3));
            } else {
                call(19, model.holding(Model.rowOf(set)), c, some(3));
            }
        }

        /** Rare, as nothing can be undone behind it. */
        void image(int method) {
            if (random.nextInt(8) == 0) {
                call(method, random.nextInt(8) == 0 ? some(3) : upTo(1), 0, 0);
            }
        }

        void lookAround() {
            for (int what = 0; what <= 16 && calls < CALLS; what++) {
                call(3, what, 0, 0);
            }
        }

        void go() {
            if (random.nextInt(4) != 0) {
                newYard();
            }
            while (calls < CALLS && !wrong) {
                int k = random.nextInt(120);
                if (k == 0) {
                    newYard();
                } else if (k == 1) {
                    lookAround();
                } else {
                    callOne();
                }
            }
        }
    }

    public static void main(String[] args) {
        int wrong = 0;
        long calls = 0;
        for (int seed = 0; seed < RUNS && wrong < 3; seed++) {
            Run run = new Run(seed);
            run.go();
            calls += run.calls;
            if (run.wrong) {
                wrong++;
                System.out.println("run " + seed + ": " + run.trace);
            }
        }
        System.out.println(calls + " calls, " + wrong + " runs wrong");
        if (wrong != 0) {
            System.exit(1);
        }
    }
}
