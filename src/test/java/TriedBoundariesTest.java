import java.io.IOException;

/** The boundary cases that the document names for what is tried: promises 18 to 23. */
public final class TriedBoundariesTest {
    private static final int NONE = Asked.NONE, UNKNOWN = Asked.UNKNOWN, OUTSIDE = Asked.OUTSIDE, NOT = Asked.NOT,
            LEAST = Asked.LEAST, MOST = Asked.MOST;
    private static final String TEN = "y1 1;p1;" + "s0 20 0;".repeat(10);
    private final Asked a = new Asked();

    private TriedBoundariesTest() throws IOException {
    }

    public static void main(String[] args) throws IOException {
        new TriedBoundariesTest().all();
    }

    private void all() {
        triedChangesNothing();
        stateUnknown();
        stateOutside();
        stateNone();
        stateOfSaidNotVowed();
        stateOfTheWet();
        stateWithoutWater();
        stateOfLikeOnes();
        bestOutside();
        bestPails();
        bestOfLikeOnes();
        bestWorth();
        aloneUnknown();
        aloneNone();
        aloneAheadOfTheFirst();
        aloneBehindNights();
        wasUnsaidUnknown();
        wasUnsaidOutside();
        wasUnsaidWeights();
        wasUnsaidNone();
        frogs();
        droughtOutside();
        droughtNot();
        droughtDays();
        rainyOutside();
        rainyOdds();
        a.end(18, 23);
    }

    private void triedChangesNothing() {
        a.sentence(18, "TRIED from now; nothing changes by it.");
        String due = Asked.allToCome(Asked.busy());
        UnsaidWell x = Asked.busy();
        x.state(0, 15, 0);
        x.state(1, 2, 1);
        x.best(99, 0);
        x.best(0, 1);
        x.alone(0, 0);
        x.alone(1, 0);
        x.wasUnsaid(0, 14, 2);
        x.drought(99);
        x.rainy(60, 50);
        a.same(due, "all behind it", Asked.allToCome(x));
    }

    // ---- promise 18

    private void stateUnknown() {
        a.sentence(18, "STATE: what = 0 how many pails, 1 which; NONE. UNKNOWN");
        for (int set : new int[] {-1, 16, 17, 1024, 1 << 30, LEAST, MOST}) {
            a.refused(UNKNOWN, "state(" + set + ", 0, 0)", Asked::busy, x -> x.state(set, 0, 0));
            a.refused(UNKNOWN, "state(0, " + set + ", 0)", Asked::busy, x -> x.state(0, set, 0));
            a.due(UNKNOWN, "state(" + set + ", 0, 2): UNKNOWN comes first", Asked.busy().state(set, 0, 2));
            a.due(UNKNOWN, "state(0, " + set + ", -1): UNKNOWN comes first", Asked.busy().state(0, set, -1));
        }
        UnsaidWell ten = Asked.yardOf(TEN);
        a.due(0, "state(1023, 0, 0): all", ten.state(1023, 0, 0));
        a.due(200, "state(0, 1023, 0): none", ten.state(0, 1023, 0));
        a.due(1023, "state(0, 1023, 1): none", ten.state(0, 1023, 1));
        a.due(UNKNOWN, "state(1024, 0, 0)", ten.state(1024, 0, 0));
        a.due(UNKNOWN, "state(0, 1024, 0)", ten.state(0, 1024, 0));
        a.due(UNKNOWN, "state(1, 0, 0) without a YARD", new UnsaidWell().state(1, 0, 0));
        a.due(UNKNOWN, "state(0, 1, 0) without a YARD", new UnsaidWell().state(0, 1, 0));
    }

    private void stateOutside() {
        a.sentence(18, "1 which; NONE. UNKNOWN, OUTSIDE.");
        for (int what : new int[] {-1, 2, LEAST, MOST}) {
            a.refused(OUTSIDE, "state(0, 0, " + what + ")", Asked::busy, x -> x.state(0, 0, what));
            a.due(OUTSIDE, "state(1, 1, " + what + ") where there is none", Asked.busy().state(1, 1, what));
            a.due(OUTSIDE, "state(0, 0, " + what + ") without a YARD", new UnsaidWell().state(0, 0, what));
        }
    }

    private void stateNone() {
        a.sentence(18, "so that all of one SET HOLD, none of another one does: the least pails that this takes; which (of like ones the least SET); NONE");
        UnsaidWell x = Asked.yardOf(Asked.YARD);
        a.due(0, "state(0, 0, 0): nothing is asked", x.state(0, 0, 0));
        a.due(0, "state(0, 0, 1): nothing is asked", x.state(0, 0, 1));
        for (int what = 0; what <= 1; what++) {
            a.due(NONE, "state(1, 1, " + what + "): it holds and does not", x.state(1, 1, what));
            a.due(NONE, "state(8, 1, " + what + "): it follows from that", x.state(8, 1, what));
            a.due(NONE, "state(15, 15, " + what + ")", x.state(15, 15, what));
        }
        a.due(4, "state(3, 4, 0)", x.state(3, 4, 0));
        a.due(4, "state(3, 4, 1)", x.state(3, 4, 1));
        x.pour(1, 1);
        a.due(NONE, "state(2, 0, 0): it is UNSAID, and nothing is SAID again", x.state(2, 0, 0));
        a.due(NONE, "state(4, 0, 0): it follows from what is UNSAID", x.state(4, 0, 0));
        a.due(0, "state(0, 14, 0): it is so", x.state(0, 14, 0));
        a.due(0, "state(0, 14, 1): it is so", x.state(0, 14, 1));
    }

    private void stateOfSaidNotVowed() {
        a.sentence(18, "STATE: of SAYINGS that are SAID, not VOWED some are UNSAID");
        UnsaidWell x = Asked.yardOf("y9 0;p9;s0 1 1;s0 2 1;s0 3 1;f0 2;f1 2;");
        a.due(1, "state(0, 4, 0)", x.state(0, 4, 0));
        x.vow(0, true);
        a.due(2, "state(0, 4, 0): the least is VOWED", x.state(0, 4, 0));
        a.due(2, "state(0, 4, 1)", x.state(0, 4, 1));
        x.vow(1, true);
        a.due(3, "state(0, 4, 0): two are VOWED", x.state(0, 4, 0));
        x.vow(2, true);
        a.due(NONE, "state(0, 4, 0): all are VOWED", x.state(0, 4, 0));
        a.due(NONE, "state(0, 4, 1): all are VOWED", x.state(0, 4, 1));
        a.due(0, "state(7, 0, 0): what is VOWED holds", x.state(7, 0, 0));
        x.vow(0, false);
        x.pour(0, 0);
        x.vow(0, true);
        a.due(0, "state(0, 5, 0): it is UNSAID and VOWED", x.state(0, 5, 0));
        a.due(0, "state(0, 5, 1)", x.state(0, 5, 1));
    }

    private void stateOfTheWet() {
        a.sentence(18, "(each takes what it weighs less what it is WET; ARMS, LEVEL are no matter)");
        UnsaidWell x = Asked.yardOf("y99 0;p9;s0 20 1;s0 10 1;s0 20 1;f0 2;f1 2;");
        a.due(20, "state(0, 1, 0)", x.state(0, 1, 0));
        a.due(2, "state(0, 4, 1)", x.state(0, 4, 1));
        x.pour(0, 0);
        a.due(11, "state(0, 1, 0): WET by 9", x.state(0, 1, 0));
        a.due(2, "state(0, 4, 1)", x.state(0, 4, 1));
        x.pour(0, 0);
        a.due(2, "state(0, 1, 0): WET by 18", x.state(0, 1, 0));
        a.due(1, "state(0, 4, 1)", x.state(0, 4, 1));
        x.say(0);
        a.due(20, "state(0, 1, 0): dry", x.state(0, 1, 0));
    }

    private void stateWithoutWater() {
        a.sentence(18, "ARMS, LEVEL are no matter");
        UnsaidWell x = Asked.yardOf("y0 0;p1;s0 20 1;");
        a.due(20, "state(0, 1, 0)", x.state(0, 1, 0));
        a.due(1, "state(0, 1, 1)", x.state(0, 1, 1));
    }

    private void stateOfLikeOnes() {
        a.sentence(18, "which (of like ones the least SET)");
        UnsaidWell x = Asked.yardOf("y0 0;p1;s0 3 1;s0 1 1;s0 2 1;s0 9 1;f0 3;f1 3;f2 3;");
        a.due(1, "state(0, 8, 0)", x.state(0, 8, 0));
        a.due(2, "state(0, 8, 1)", x.state(0, 8, 1));
        // 0 alone, or 1 and 2 together: 3 pails each.
        x = Asked.yardOf("y0 0;p1;s0 3 1;s0 1 1;s0 2 1;s0 9 1;s0 9 1;f0 3;f1 3;f0 4;f2 4;");
        a.due(3, "state(0, 24, 0)", x.state(0, 24, 0));
        a.due(1, "state(0, 24, 1)", x.state(0, 24, 1));
        // 0 and 1 together, or 2 alone: {0, 1} is 3, {2} is 4.
        x = Asked.yardOf("y0 0;p1;s0 1 1;s0 2 1;s0 3 1;s0 9 1;s0 9 1;f0 3;f2 3;f1 4;f2 4;");
        a.due(3, "state(0, 24, 0)", x.state(0, 24, 0));
        a.due(3, "state(0, 24, 1)", x.state(0, 24, 1));
    }

    // ---- promise 19

    private void bestOutside() {
        a.sentence(19, "BEST: what = 0 WORTH (and 1000), 1 which. OUTSIDE.");
        for (int n : new int[] {-1, 100, LEAST, MOST}) {
            a.refused(OUTSIDE, "best(" + n + ", 0)", Asked::busy, x -> x.best(n, 0));
            a.refused(OUTSIDE, "best(" + n + ", 1)", Asked::busy, x -> x.best(n, 1));
        }
        for (int what : new int[] {-1, 2, LEAST, MOST}) {
            a.refused(OUTSIDE, "best(0, " + what + ")", Asked::busy, x -> x.best(0, what));
        }
        a.due(OUTSIDE, "best(100, 2)", Asked.busy().best(100, 2));
        a.due(OUTSIDE, "best(100, 0) without a YARD", new UnsaidWell().best(100, 0));
    }

    private void bestPails() {
        a.sentence(19, "BEST for at most n pails (0 .. 99) likewise");
        UnsaidWell x = Asked.yardOf("y0 0;p1;s0 20 0;s0 20 10;s0 20 20;s0 20 30;s0 19 40;s0 20 99;");
        a.due(899, "best(0, 0)", x.best(0, 0));
        a.due(0, "best(0, 1)", x.best(0, 1));
        a.due(0, "best(18, 1)", x.best(18, 1));
        a.due(16, "best(19, 1)", x.best(19, 1));
        a.due(1, "best(20, 1)", x.best(20, 1));
        a.due(15, "best(98, 1)", x.best(98, 1));
        a.due(31, "best(99, 1)", x.best(99, 1));
        a.due(1049, "best(99, 0)", x.best(99, 0));
        // 100 pails are too many for all.
        a.due(1039, "best(99, 0)", Asked.yardOf("y0 0;p1;s0 20 0;s0 20 10;s0 20 20;s0 20 30;s0 20 40;s0 20 99;").best(99, 0));
    }

    private void bestOfLikeOnes() {
        a.sentence(19, "that can be had by SAYINGS UNSAID so; which (of like ones the least)");
        UnsaidWell x = Asked.yardOf("y0 0;p1;s0 9 40;s0 1 40;");
        a.due(2, "best(8, 1)", x.best(8, 1));
        a.due(1, "best(9, 1): the least SET, not the fewest pails", x.best(9, 1));
        a.due(3, "best(10, 1)", x.best(10, 1));
        a.due(0, "best(99, 1): what is worth nothing may stay", Asked.yardOf("y0 0;p1;s0 1 50;").best(99, 1));
        a.due(0, "best(99, 1): all is worth something", Asked.yardOf("y0 0;p1;s0 1 51;s0 1 99;").best(99, 1));
        x = Asked.yardOf("y9 0;p9;s0 1 49;s0 2 49;");
        x.vow(0, true);
        a.due(2, "best(99, 1): the other is VOWED", x.best(99, 1));
        x.vow(0, false);
        x.pour(0, 0);
        a.due(2, "best(99, 1): the other is UNSAID", x.best(99, 1));
        a.due(1000, "best(99, 0)", x.best(99, 0));
        a.due(0, "best(1, 1)", x.best(1, 1));
        x.vow(1, true);
        a.due(0, "best(99, 1): none can be", x.best(99, 1));
        a.due(999, "best(99, 0): none can be", x.best(99, 0));
    }

    private void bestWorth() {
        a.sentence(19, "the most WORTH (and 1000)");
        UnsaidWell x = Asked.yardOf("y0 0;p1;" + "s0 1 0;".repeat(10));
        a.due(500, "best(0, 0)", x.best(0, 0));
        a.due(950, "best(9, 0)", x.best(9, 0));
        a.due(1000, "best(10, 0)", x.best(10, 0));
        a.due(1023, "best(10, 1)", x.best(10, 1));
        a.due(1490, "best(99, 0)", Asked.yardOf("y0 0;p1;" + "s0 1 99;".repeat(10)).best(99, 0));
        // What is worth little may bear what is worth much.
        a.due(0, "best(99, 1)", Asked.yardOf("y0 0;p1;s0 1 40;s0 1 61;f0 1;").best(99, 1));
        a.due(1, "best(99, 1)", Asked.yardOf("y0 0;p1;s0 1 40;s0 1 59;f0 1;").best(99, 1));
        // What it is WET counts.
        x = Asked.yardOf("y5 0;p5;s0 7 40;");
        x.pour(0, 0);
        a.due(0, "best(1, 1)", x.best(1, 1));
        a.due(1, "best(2, 1)", x.best(2, 1));
    }

    // ---- promise 20

    private void aloneUnknown() {
        a.sentence(20, "ALONE; NONE. UNKNOWN.");
        for (int p : new int[] {-1, 2, 5, LEAST, MOST}) {
            a.refused(UNKNOWN, "alone(" + p + ", 0)", Asked::busy, x -> x.alone(p, 0));
            a.due(UNKNOWN, "alone(" + p + ", 2), VOWED: UNKNOWN comes first", Asked.busy().alone(p, 2));
        }
        for (int s : new int[] {-1, 4, 10, 32, LEAST, MOST}) {
            a.refused(UNKNOWN, "alone(0, " + s + ")", Asked::busy, x -> x.alone(0, s));
        }
        UnsaidWell x = Asked.yardOf("y99 0;p2;p2;p2;p2;p2;" + "s0 1 1;".repeat(10));
        a.due(0, "alone(4, 9): the last of each", x.alone(4, 9));
        a.due(UNKNOWN, "alone(5, 9)", x.alone(5, 9));
        a.due(UNKNOWN, "alone(4, 10)", x.alone(4, 10));
    }

    private void aloneNone() {
        a.sentence(20, "NONE (it is UNSAID now, VOWED, too)");
        a.due(NONE, "alone(1, 3), UNSAID", Asked.busy().alone(1, 3));
        a.due(NONE, "alone(0, 2), VOWED", Asked.busy().alone(0, 2));
        a.due(NONE, "alone(0, 0), no water for ever", Asked.yardOf("y0 0;p9;s0 1 1;").alone(0, 0));
        a.due(NONE, "alone(0, 0), a pail too few for ever", Asked.yardOf("y19 0;p9;s0 20 1;").alone(0, 0));
        a.due(NONE, "alone(1, 0), a pail too few for ever", Asked.yardOf("y39 0;p9;p9;s0 20 1;").alone(1, 0));
        a.due(NONE, "alone(1, 0), another's by an arm of 1", Asked.yardOf("y99 20;p9;p1;s0 1 1;").alone(1, 0));
        UnsaidWell x = Asked.yardOf("y9 0;p9;s0 1 1;");
        x.pour(0, 0);
        a.due(NONE, "alone(0, 0), UNSAID", x.alone(0, 0));
        x.vow(0, true);
        a.due(NONE, "alone(0, 0), UNSAID and VOWED", x.alone(0, 0));
        x.say(0);
        a.due(NONE, "alone(0, 0), VOWED", x.alone(0, 0));
        x.vow(0, false);
        a.due(0, "alone(0, 0)", x.alone(0, 0));
    }

    private void aloneAheadOfTheFirst() {
        a.sentence(20, "(0: ahead of the first)");
        a.due(0, "alone(0, 0), by an arm of 1 again and again", Asked.yardOf("y20 0;p1;s0 20 1;").alone(0, 0));
        a.due(1, "alone(0, 0), a pail is missing", Asked.yardOf("y19 1;p1;s0 20 1;").alone(0, 0));
        a.due(0, "alone(1, 0), another's by twice", Asked.yardOf("y40 0;p1;p2;s0 20 1;").alone(1, 0));
        a.due(1, "alone(1, 0), a pail is missing", Asked.yardOf("y39 1;p1;p2;s0 20 1;").alone(1, 0));
        UnsaidWell x = Asked.yardOf("y20 0;p9;s0 20 1;s0 9 1;");
        x.pour(0, 0);
        a.due(0, "alone(0, 0), WET by 9, of 11 pails", x.alone(0, 0));
        x.pour(0, 1);
        a.due(NONE, "alone(0, 0), WET by 9, of 2 pails", x.alone(0, 0));
    }

    private void aloneBehindNights() {
        a.sentence(20, "ahead of each NIGHT till nothing more can be drawn for it: behind how many NIGHTS (0 .. 60) it comes to be UNSAID by that");
        // With a spring of one, nothing takes longer than another's of 20, from an empty well: 40.
        for (int weight = 1; weight <= 20; weight++) {
            UnsaidWell x = Asked.yardOf("y0 1;p9;p9;s0 " + weight + " 1;");
            a.due(weight, "alone(0, 0) of " + weight, x.alone(0, 0));
            a.due(2 * weight, "alone(1, 0) of " + weight, x.alone(1, 0));
        }
        a.due(1, "alone(0, 0), by a spring of 20", Asked.yardOf("y0 20;p9;s0 20 1;").alone(0, 0));
        a.due(2, "alone(1, 0), by a spring of 20", Asked.yardOf("y0 20;p9;p9;s0 20 1;").alone(1, 0));
        // RAIN as it is now, halved each NIGHT: 10, 5, 2, 1 are 18, and no more.
        UnsaidWell x = Asked.yardOf("y0 0;p9;s0 18 1;s0 19 1;");
        x.rain(10);
        a.due(4, "alone(0, 0), by rain", x.alone(0, 0));
        a.due(NONE, "alone(0, 1), by rain", x.alone(0, 1));
        // Near the last night that can be, it is tried all the same.
        x = Asked.yardOf("y0 1;p9;s0 20 1;");
        for (int i = 0; i < 151; i++) {
            x.night(60);
        }
        x.pour(0, 0);
        a.due(0, "alone(0, 0) above 9000 NIGHTS", x.alone(0, 0));
    }

    // ---- promise 21

    private void wasUnsaidUnknown() {
        a.sentence(21, "WAS UNSAID: what = 0 how many, 1 which are in each (NONE), 2 FROG (NONE). UNKNOWN");
        for (int set : new int[] {-1, 16, 1024, 1 << 30, LEAST, MOST}) {
            a.refused(UNKNOWN, "wasUnsaid(" + set + ", 0, 0)", Asked::busy, x -> x.wasUnsaid(set, 0, 0));
            a.due(UNKNOWN, "wasUnsaid(" + set + ", 201, 0): UNKNOWN comes first", Asked.busy().wasUnsaid(set, 201, 0));
            a.due(UNKNOWN, "wasUnsaid(" + set + ", 0, 3): UNKNOWN comes first", Asked.busy().wasUnsaid(set, 0, 3));
        }
        UnsaidWell ten = Asked.yardOf(TEN);
        a.due(1, "wasUnsaid(1023, 0, 0)", ten.wasUnsaid(1023, 0, 0));
        a.due(UNKNOWN, "wasUnsaid(1024, 0, 0)", ten.wasUnsaid(1024, 0, 0));
        a.due(UNKNOWN, "wasUnsaid(1, 0, 0) without a YARD", new UnsaidWell().wasUnsaid(1, 0, 0));
    }

    private void wasUnsaidOutside() {
        a.sentence(21, "2 FROG (NONE). UNKNOWN, OUTSIDE.");
        for (int c : new int[] {-1, 201, LEAST, MOST}) {
            a.refused(OUTSIDE, "wasUnsaid(0, " + c + ", 0)", Asked::busy, x -> x.wasUnsaid(0, c, 0));
        }
        for (int what : new int[] {-1, 3, LEAST, MOST}) {
            a.refused(OUTSIDE, "wasUnsaid(0, 0, " + what + ")", Asked::busy, x -> x.wasUnsaid(0, 0, what));
        }
        a.due(OUTSIDE, "wasUnsaid(0, 201, 0) without a YARD", new UnsaidWell().wasUnsaid(0, 201, 0));
    }

    private void wasUnsaidWeights() {
        a.sentence(21, "WAS UNSAID: SETS of SAYINGS that weigh c (0 .. 200) together, such that, these UNSAID and all others SAID, just those of a told SET would HOLD");
        UnsaidWell x = Asked.yardOf(TEN);
        a.due(1, "wasUnsaid(1023, 0, 0): nothing was", x.wasUnsaid(1023, 0, 0));
        a.due(0, "wasUnsaid(1023, 0, 1): nothing was", x.wasUnsaid(1023, 0, 1));
        a.due(1, "wasUnsaid(0, 200, 0): all was", x.wasUnsaid(0, 200, 0));
        a.due(1023, "wasUnsaid(0, 200, 1): all was", x.wasUnsaid(0, 200, 1));
        a.due(NONE, "wasUnsaid(0, 200, 2): one alone", x.wasUnsaid(0, 200, 2));
        a.due(0, "wasUnsaid(0, 199, 0)", x.wasUnsaid(0, 199, 0));
        // All of the chain fell with the first: each of the 512 with 0 in it, by how many they are.
        UnsaidWell chain = Asked.yardOf(Asked.CHAIN);
        a.due(126, "wasUnsaid(0, 5, 0): four of nine", chain.wasUnsaid(0, 5, 0));
        a.due(1, "wasUnsaid(0, 5, 1): 0 in each", chain.wasUnsaid(0, 5, 1));
        a.due(1, "wasUnsaid(0, 5, 2): 56 with, 70 without", chain.wasUnsaid(0, 5, 2));
        a.due(1, "wasUnsaid(511, 1, 0)", chain.wasUnsaid(511, 1, 0));
        // What is so now is no matter: WET, UNSAID, VOWED.
        String four = "y9 0;p9;s0 5 1;s0 2 1;s0 2 1;s0 2 1;f0 1;f0 2;f0 3;";
        UnsaidWell y = Asked.yardOf(four);
        y.pour(0, 0);
        y.vow(1, true);
        a.due(3, "wasUnsaid(0, 7, 0)", y.wasUnsaid(0, 7, 0));
        a.due(1, "wasUnsaid(15, 0, 0)", y.wasUnsaid(15, 0, 0));
    }

    private void wasUnsaidNone() {
        a.sentence(21, "how many; SAYINGS in each of them (a SET; NONE: there is none)");
        UnsaidWell x = Asked.yardOf(Asked.YARD);
        for (int c : new int[] {0, 1, 15, 200}) {
            a.due(0, "wasUnsaid(0, " + c + ", 0)", x.wasUnsaid(0, c, 0));
            a.due(NONE, "wasUnsaid(0, " + c + ", 1)", x.wasUnsaid(0, c, 1));
            a.due(NONE, "wasUnsaid(0, " + c + ", 2)", x.wasUnsaid(0, c, 2));
        }
        a.due(0, "wasUnsaid(8, 12, 0): it cannot hold alone", x.wasUnsaid(8, 12, 0));
        UnsaidWell y = Asked.yardOf("y0 0;p1;s0 1 1;s0 1 1;s0 1 1;f0 2;f1 2;");
        a.due(NONE, "wasUnsaid(0, 1, 1): a root is left", y.wasUnsaid(0, 1, 1));
        a.due(3, "wasUnsaid(0, 2, 1): both roots", y.wasUnsaid(0, 2, 1));
        // Nothing in the one SET there is, 0, is not NONE; two SETS always share what fell first.
        a.due(0, "wasUnsaid(7, 0, 1)", y.wasUnsaid(7, 0, 1));
        UnsaidWell z = Asked.yardOf("y0 0;p1;s0 1 1;s0 1 1;s0 2 1;s0 1 1;f0 1;f0 3;");
        a.due(2, "wasUnsaid(4, 2, 0)", z.wasUnsaid(4, 2, 0));
        a.due(1, "wasUnsaid(4, 2, 1)", z.wasUnsaid(4, 2, 1));
        a.due(0, "wasUnsaid(0, 0, 1) without a YARD: one, of nothing", new UnsaidWell().wasUnsaid(0, 0, 1));
    }

    private void frogs() {
        a.sentence(21, "the greatest part that is alike is least; of like ones the least; NONE: none parts them");
        UnsaidWell x = Asked.yardOf(Asked.YARD);
        a.due(NONE, "wasUnsaid(15, 0, 2): one alone", x.wasUnsaid(15, 0, 2));
        a.due(NONE, "wasUnsaid(0, 1, 2): there is none", x.wasUnsaid(0, 1, 2));
        a.due(NONE, "wasUnsaid(0, 0, 2) without a YARD", new UnsaidWell().wasUnsaid(0, 0, 2));
        // Just two sets: any of the two parts them, the least is asked.
        UnsaidWell z = Asked.yardOf("y0 0;p1;s0 1 1;s0 1 1;s0 2 1;s0 1 1;f0 1;f0 3;");
        a.due(1, "wasUnsaid(4, 2, 2)", z.wasUnsaid(4, 2, 2));
        // {1}, {2}, {3} or {4, 5} beside a root: each parts one from three.
        UnsaidWell y = Asked.yardOf("y0 0;p1;s0 1 1;s0 3 1;s0 3 1;s0 3 1;s0 1 1;s0 2 1;f0 1;f0 2;f0 3;f0 4;f0 5;");
        a.due(4, "wasUnsaid(0, 4, 0)", y.wasUnsaid(0, 4, 0));
        a.due(1, "wasUnsaid(0, 4, 2)", y.wasUnsaid(0, 4, 2));
        // {1}, {4}, {2, 5} or {3, 5} beside a root: only the last parts two from two.
        UnsaidWell w = Asked.yardOf("y0 0;p1;s0 1 1;s0 4 1;s0 3 1;s0 3 1;s0 4 1;s0 1 1;f0 1;f0 2;f0 3;f0 4;f0 5;");
        a.due(4, "wasUnsaid(0, 5, 0)", w.wasUnsaid(0, 5, 0));
        a.due(5, "wasUnsaid(0, 5, 2): halves", w.wasUnsaid(0, 5, 2));
        // What was asked ahead of it leaves no trace: 0 was in the one SET, and is in none of the two.
        UnsaidWell v = Asked.yardOf("y0 0;p1;s0 1 1;s0 1 1;s0 1 1;s0 1 1;f1 2;f1 3;");
        a.due(NONE, "wasUnsaid(14, 1, 2)", v.wasUnsaid(14, 1, 2));
        a.due(2, "wasUnsaid(1, 2, 2)", v.wasUnsaid(1, 2, 2));
        a.due(2, "wasUnsaid(1, 2, 0)", v.wasUnsaid(1, 2, 0));
        a.due(2, "wasUnsaid(1, 2, 1)", v.wasUnsaid(1, 2, 1));
    }

    // ---- promise 22

    private void droughtOutside() {
        a.sentence(22, "DAYS of DROUGHT; NONE. OUTSIDE");
        for (int n : new int[] {-1, 100, LEAST, MOST}) {
            a.refused(OUTSIDE, "drought(" + n + ")", Asked::busy, x -> x.drought(n));
            a.due(OUTSIDE, "drought(" + n + ") without a YARD: OUTSIDE comes first", new UnsaidWell().drought(n));
        }
    }

    private void droughtNot() {
        a.sentence(22, "NONE. OUTSIDE, NOT: no YARD.");
        a.refused(NOT, "drought(0)", UnsaidWell::new, x -> x.drought(0));
        a.refused(NOT, "drought(99)", UnsaidWell::new, x -> x.drought(99));
    }

    private void droughtDays() {
        a.sentence(22, "behind how many NIGHTS without RAIN (0 .. 99) LEVEL is n (0 .. 99) or more; NONE");
        UnsaidWell x = Asked.yardOf("y0 1;");
        a.due(0, "drought(0)", x.drought(0));
        a.due(1, "drought(1)", x.drought(1));
        a.due(98, "drought(98)", x.drought(98));
        a.due(99, "drought(99)", x.drought(99));
        x.rain(99);
        a.due(99, "drought(99), RAIN is no matter", x.drought(99));
        x = Asked.yardOf("y7 0;");
        a.due(0, "drought(6)", x.drought(6));
        a.due(0, "drought(7)", x.drought(7));
        a.due(NONE, "drought(8)", x.drought(8));
        a.due(NONE, "drought(99)", x.drought(99));
        x = Asked.yardOf("y79 20;");
        a.due(1, "drought(99)", x.drought(99));
        a.due(2, "drought(99), a pail less", Asked.yardOf("y78 20;").drought(99));
        a.due(0, "drought(99), a full well", Asked.yardOf("y99 0;").drought(99));
        a.due(5, "drought(99), by 20", Asked.yardOf("y0 20;").drought(99));
    }

    // ---- promise 23

    private void rainyOutside() {
        a.sentence(23, "`int rainy(int n, int q)`: RAINY. OUTSIDE.");
        for (int n : new int[] {-1, 61, LEAST, MOST}) {
            a.refused(OUTSIDE, "rainy(" + n + ", 50)", Asked::busy, x -> x.rainy(n, 50));
        }
        for (int q : new int[] {-1, 101, LEAST, MOST}) {
            a.refused(OUTSIDE, "rainy(1, " + q + ")", Asked::busy, x -> x.rainy(1, q));
            a.due(OUTSIDE, "rainy(0, " + q + ")", new UnsaidWell().rainy(0, q));
            a.due(OUTSIDE, "rainy(61, " + q + ")", new UnsaidWell().rainy(61, q));
        }
    }

    private void rainyOdds() {
        a.sentence(23, "odds of n rainy nights (0 .. 60), each by q of a hundred (0 .. 100): a BILLION times q / 100 each (cut)");
        UnsaidWell x = new UnsaidWell();
        for (int q : new int[] {0, 1, 50, 100}) {
            a.due(1000000000, "rainy(0, " + q + ")", x.rainy(0, q));
        }
        a.due(0, "rainy(1, 0)", x.rainy(1, 0));
        a.due(0, "rainy(60, 0)", x.rainy(60, 0));
        a.due(1000000000, "rainy(1, 100)", x.rainy(1, 100));
        a.due(1000000000, "rainy(60, 100)", x.rainy(60, 100));
        a.due(10, "rainy(4, 1)", x.rainy(4, 1));
        a.due(0, "rainy(5, 1): cut", x.rainy(5, 1));
        a.due(1, "rainy(29, 50) is cut at each night: 1", x.rainy(29, 50));
        a.due(0, "rainy(30, 50)", x.rainy(30, 50));
        long odds = 1000000000L;
        for (int n = 1; n <= 60; n++) {
            odds = odds * 99 / 100;
            a.due((int) odds, "rainy(" + n + ", 99)", x.rainy(n, 99));
        }
    }
}
