import java.io.IOException;
import java.util.ArrayList;
import java.util.List;

/** The boundary cases that the document names for what is done and undone: promises 9 to 17. */
public final class DoneBoundariesTest {
    private static final int NONE = Asked.NONE, UNKNOWN = Asked.UNKNOWN, OUTSIDE = Asked.OUTSIDE, NOT = Asked.NOT,
            FULL = Asked.FULL, LEAST = Asked.LEAST, MOST = Asked.MOST;
    private final Asked a = new Asked();

    private DoneBoundariesTest() throws IOException {
    }

    public static void main(String[] args) throws IOException {
        new DoneBoundariesTest().all();
    }

    private void all() {
        pourUnknown();
        pourNot();
        drawnByWeight();
        drawnByArmAndLevel();
        anothersEven();
        unsaidWhenWet();
        cobbles();
        sayUnknown();
        sayAgain();
        vowUnknown();
        vowed();
        nightOutside();
        nightNot();
        nightFull();
        levelAtMost();
        rainHalved();
        rainOutside();
        rainNot();
        queueUnknown();
        queueFull();
        turnNot();
        turnLeaves();
        turnToTheEnd();
        driftOutside();
        driftNot();
        driftFull();
        driftWithoutPersons();
        driftDraws();
        undoNot();
        undoneAtMost();
        undoneOfEach();
        seedStays();
        refusedIsNotUndone();
        a.end(9, 17);
    }

    // ---- promise 9

    private void pourUnknown() {
        a.sentence(9, "POURED: pails that are drawn. UNKNOWN, NOT");
        for (int p : new int[] {-1, 2, 5, LEAST, MOST}) {
            a.refused(UNKNOWN, "pour(" + p + ", 0)", Asked::busy, x -> x.pour(p, 0));
            a.due(UNKNOWN, "pour(" + p + ", 2): UNKNOWN comes ahead of NOT", Asked.busy().pour(p, 2));
        }
        for (int s : new int[] {-1, 4, 10, 32, LEAST, MOST}) {
            a.refused(UNKNOWN, "pour(0, " + s + ")", Asked::busy, x -> x.pour(0, s));
        }
        UnsaidWell x = Asked.yardOf("y9 0;p1;p1;p1;p1;p1;" + "s4 1 1;".repeat(10));
        a.due(1, "pour(4, 9): the last of each", x.pour(4, 9));
        a.due(UNKNOWN, "pour(5, 0)", x.pour(5, 0));
        a.due(UNKNOWN, "pour(0, 10)", x.pour(0, 10));
    }

    private void pourNot() {
        a.sentence(9, "NOT: it is UNSAID, VOWED, or no pail can be drawn for it.");
        a.refused(NOT, "pour(1, 3): it is UNSAID", Asked::busy, x -> x.pour(1, 3));
        a.refused(NOT, "pour(0, 2): it is VOWED", Asked::busy, x -> x.pour(0, 2));
        a.refused(NOT, "pour(0, 0) of an empty well", "y0 1;p9;s0 1 1;", x -> x.pour(0, 0));
        a.refused(NOT, "pour(1, 0), another's by an arm of 1", "y9 1;p9;p1;s0 1 1;", x -> x.pour(1, 0));
        a.refused(NOT, "pour(1, 0), another's of a level of 1", "y1 1;p9;p9;s0 1 1;", x -> x.pour(1, 0));
        a.due(1, "pour(0, 0), his own of a level of 1", Asked.yardOf("y1 1;p9;p9;s0 1 1;").pour(0, 0));
        a.due(1, "pour(0, 0), his own by an arm of 1", Asked.yardOf("y9 1;p1;s0 2 1;").pour(0, 0));
        a.due(2, "pour(1, 0), another's of a level of 2", Asked.yardOf("y2 1;p9;p9;s0 1 1;").pour(1, 0));
        a.due(2, "pour(1, 0), another's by an arm of 2", Asked.yardOf("y9 1;p9;p2;s0 1 1;").pour(1, 0));
        // What does not HOLD, but is SAID, can be poured on.
        UnsaidWell x = Asked.yardOf("y9 1;p9;s0 1 1;s0 2 1;f0 1;");
        x.pour(0, 0);
        a.due(2, "pour(0, 1), it does not hold", x.pour(0, 1));
    }

    private void drawnByWeight() {
        a.sentence(9, "As much is drawn as makes it WET by what it weighs");
        UnsaidWell x = Asked.yardOf("y99 0;p9;p9;s0 8 1;s0 9 1;s0 10 1;s0 4 1;s0 1 1;");
        a.due(8, "pour(0, 0), less than his arm", x.pour(0, 0));
        a.due(9, "pour(0, 1), as much as his arm", x.pour(0, 1));
        a.due(9, "pour(0, 2), more than his arm", x.pour(0, 2));
        a.due(9, "saying(2, 3)", x.saying(2, 3));
        a.due(1, "pour(0, 2) again", x.pour(0, 2));
        a.due(8, "pour(1, 3), another's: twice 4", x.pour(1, 3));
        a.due(2, "pour(1, 4), another's: twice 1", x.pour(1, 4));
        a.due(31, "told(8)", x.told(8));
    }

    private void drawnByArmAndLevel() {
        a.sentence(9, "but no more pails than ARM, than LEVEL (of another's an even number)");
        a.due(9, "pour(0, 0) by arm", Asked.yardOf("y10 0;p9;s0 20 1;").pour(0, 0));
        a.due(9, "pour(0, 0) by both", Asked.yardOf("y9 0;p9;s0 20 1;").pour(0, 0));
        UnsaidWell x = Asked.yardOf("y8 0;p9;s0 20 1;");
        a.due(8, "pour(0, 0) by level", x.pour(0, 0));
        a.due(0, "told(5)", x.told(5));
        a.due(NOT, "pour(0, 0) of no water", x.pour(0, 0));
    }

    private void anothersEven() {
        a.sentence(9, "each pail makes it 1 more WET, if it is his; if it is another's, two pails do");
        UnsaidWell x = Asked.yardOf("y99 0;p9;p9;p8;p1;s0 20 1;");
        a.due(8, "pour(1, 0) by an arm of 9", x.pour(1, 0));
        a.due(4, "saying(0, 3)", x.saying(0, 3));
        a.due(8, "pour(2, 0) by an arm of 8", x.pour(2, 0));
        a.due(8, "saying(0, 3)", x.saying(0, 3));
        a.due(NOT, "pour(3, 0) by an arm of 1", x.pour(3, 0));
        a.due(9, "pour(0, 0) by its own", x.pour(0, 0));
        a.due(17, "saying(0, 3)", x.saying(0, 3));
        a.due(6, "pour(1, 0): twice what is missing", x.pour(1, 0));
        a.due(1, "told(8)", x.told(8));
        x = Asked.yardOf("y7 0;p9;p9;s0 20 1;");
        a.due(6, "pour(1, 0) by a level of 7", x.pour(1, 0));
        a.due(1, "told(5)", x.told(5));
        a.due(NOT, "pour(1, 0) by a level of 1", x.pour(1, 0));
    }

    private void unsaidWhenWet() {
        a.sentence(9, "If it is WET by what it weighs, it is UNSAID, WET by 0");
        UnsaidWell x = Asked.yardOf("y99 0;p9;p1;s0 10 1;");
        x.pour(0, 0);
        a.due(9, "saying(0, 3): one is missing", x.saying(0, 3));
        a.due(0, "told(8)", x.told(8));
        a.due(1, "told(7)", x.told(7));
        x.pour(0, 0);
        a.due(0, "saying(0, 3)", x.saying(0, 3));
        a.due(1, "told(8)", x.told(8));
        a.due(0, "told(7)", x.told(7));
    }

    private void cobbles() {
        a.sentence(9, "COBBLES: pails that were poured on all since the last night");
        UnsaidWell x = Asked.yardOf("y99 0;p9;p9;s0 20 1;s1 20 1;");
        a.due(0, "told(10)", x.told(10));
        x.pour(0, 0);
        x.pour(0, 1);
        a.due(17, "told(10): pails, not what is wet", x.told(10));
        x.say(0);
        a.due(17, "told(10) behind say()", x.told(10));
        x.queue(1, 1);
        x.turn();
        a.due(26, "told(10) behind turn()", x.told(10));
        x.night(1);
        a.due(0, "told(10) behind a night", x.told(10));
    }

    // ---- promise 10

    private void sayUnknown() {
        a.sentence(10, "SAID again: by how much it was WET. UNKNOWN.");
        for (int s : new int[] {-1, 4, 10, 32, LEAST, MOST}) {
            a.refused(UNKNOWN, "say(" + s + ")", Asked::busy, x -> x.say(s));
        }
        UnsaidWell ten = Asked.yardOf(Asked.CHAIN);
        a.due(0, "say(9)", ten.say(9));
        a.due(UNKNOWN, "say(10)", ten.say(10));
    }

    private void sayAgain() {
        a.sentence(10, "SAID again: it is SAID, WET by 0.");
        UnsaidWell x = Asked.yardOf("y99 0;p9;s0 10 1;s0 1 1;");
        a.due(0, "say(0), dry", x.say(0));
        x.pour(0, 0);
        a.due(9, "say(0), one is missing", x.say(0));
        a.due(0, "saying(0, 3)", x.saying(0, 3));
        a.due(0, "say(0) again", x.say(0));
        x.pour(0, 1);
        a.due(2, "told(8)", x.told(8));
        a.due(0, "say(1), UNSAID", x.say(1));
        a.due(0, "told(8)", x.told(8));
        x.vow(1, true);
        a.due(0, "say(1), VOWED", x.say(1));
        a.due(2, "told(9): it stays so", x.told(9));
    }

    // ---- promise 11

    private void vowUnknown() {
        a.sentence(11, "VOWED (is), or not: 1 it was, 0 not. UNKNOWN.");
        for (int s : new int[] {-1, 4, 10, 32, LEAST, MOST}) {
            a.refused(UNKNOWN, "vow(" + s + ", true)", Asked::busy, x -> x.vow(s, true));
            a.refused(UNKNOWN, "vow(" + s + ", false)", Asked::busy, x -> x.vow(s, false));
        }
        UnsaidWell ten = Asked.yardOf(Asked.CHAIN);
        a.due(0, "vow(9, true)", ten.vow(9, true));
        a.due(512, "told(9)", ten.told(9));
        a.due(1, "vow(9, true) again", ten.vow(9, true));
        a.due(1, "vow(9, false)", ten.vow(9, false));
        a.due(0, "vow(9, false) again", ten.vow(9, false));
        a.due(UNKNOWN, "vow(10, true)", ten.vow(10, true));
        a.due(0, "told(9)", ten.told(9));
    }

    private void vowed() {
        a.sentence(11, "VOWED: it can be poured on no more (none is, at first)");
        UnsaidWell x = Asked.yardOf("y99 0;p9;s0 20 1;s0 1 1;");
        a.due(0, "told(9)", x.told(9));
        x.pour(0, 0);
        x.vow(0, true);
        a.due(NOT, "pour(0, 0)", x.pour(0, 0));
        a.due(9, "saying(0, 3): it stays WET", x.saying(0, 3));
        a.due(3, "told(7): it HOLDS", x.told(7));
        x.vow(0, false);
        a.due(9, "pour(0, 0)", x.pour(0, 0));
        x.pour(0, 1);
        a.due(0, "vow(1, true), UNSAID", x.vow(1, true));
        a.due(2, "told(8): it stays so", x.told(8));
    }

    // ---- promise 12

    private void nightOutside() {
        a.sentence(12, "n NIGHTS (1 .. 60): LEVEL. OUTSIDE");
        for (int n : new int[] {0, -1, 61, LEAST, MOST}) {
            a.refused(OUTSIDE, "night(" + n + ")", Asked::busy, x -> x.night(n));
            a.due(OUTSIDE, "night(" + n + ") without a YARD: OUTSIDE comes first", new UnsaidWell().night(n));
        }
        UnsaidWell x = Asked.yardOf("y0 1;");
        a.due(1, "night(1)", x.night(1));
        a.due(1, "told(4)", x.told(4));
        a.due(61, "night(60)", x.night(60));
        a.due(61, "told(4)", x.told(4));
        a.due(2, "told(15): a call is one, however many nights", x.told(15));
    }

    private void nightNot() {
        a.sentence(12, "OUTSIDE, NOT: no YARD; FULL: NIGHTS are above 9000.");
        a.refused(NOT, "night(1)", UnsaidWell::new, x -> x.night(1));
        a.refused(NOT, "night(60)", UnsaidWell::new, x -> x.night(60));
        UnsaidWell x = new UnsaidWell();
        x.keep(0);
        x.goBack(0);
        a.due(NOT, "night(1) behind an IMAGE of no YARD", x.night(1));
    }

    /** A yard with this many nights behind it. */
    private static UnsaidWell late(int nights) {
        UnsaidWell x = Asked.yardOf("y1 0;p1;s0 1 1;");
        for (int left = nights; left > 0; left -= 60) {
            x.night(Math.min(left, 60));
        }
        return x;
    }

    private void nightFull() {
        a.sentence(12, "FULL: NIGHTS are above 9000.");
        UnsaidWell x = late(9000);
        a.due(9000, "told(4)", x.told(4));
        a.due(1, "night(1) at 9000", x.night(1));
        a.due(9001, "told(4)", x.told(4));
        a.due(FULL, "night(1) at 9001", x.night(1));
        a.due(9001, "told(4)", x.told(4));
        a.due(1, "night(60) at 9000", late(9000).night(60));
        a.due(1, "night(60) at 8999", late(8999).night(60));
        a.refused(FULL, "night(60) at 9060", () -> late(9060), y -> y.night(60));
        a.due(OUTSIDE, "night(61) at 9001: OUTSIDE comes first", x.night(61));
        a.due(OUTSIDE, "night(0) at 9001: OUTSIDE comes first", x.night(0));
        a.due(15, "undo()", x.undo());
        a.due(1, "night(1), undone to 9000", x.night(1));
        // All but the nights goes on.
        a.due(1, "pour(0, 0) at 9001", x.pour(0, 0));
        a.due(0, "rain(1) at 9001", x.rain(1));
        x.feed('y');
        Asked.feed(x, "1 1;");
        x.yard();
        a.due(2, "night(1) of a new YARD", x.night(1));
    }

    private void levelAtMost() {
        a.sentence(12, "A NIGHT: LEVEL is SPRING more, and RAIN (0 at first), 99 at most");
        a.due(98, "night(1): 97 and 1", Asked.yardOf("y97 1;").night(1));
        a.due(99, "night(1): 98 and 1", Asked.yardOf("y98 1;").night(1));
        a.due(99, "night(1): 99 and 1", Asked.yardOf("y99 1;").night(1));
        a.due(99, "night(1): 80 and 20", Asked.yardOf("y80 20;").night(1));
        a.due(99, "night(60)", Asked.yardOf("y99 20;").night(60));
        a.due(0, "night(60) without a spring", Asked.yardOf("y0 0;").night(60));
        UnsaidWell x = Asked.yardOf("y99 20;");
        x.rain(99);
        a.due(99, "night(1): 99, 20 and 99", x.night(1));
        x = Asked.yardOf("y0 0;");
        x.rain(99);
        a.due(99, "night(1): 0 and 99", x.night(1));
        x = Asked.yardOf("y0 20;");
        x.rain(78);
        a.due(98, "night(1): 20 and 78", x.night(1));
    }

    private void rainHalved() {
        a.sentence(12, "COBBLES are dry (0); RAIN is half of it (cut). NIGHTS are counted.");
        UnsaidWell x = Asked.yardOf("y0 0;");
        x.rain(99);
        int[] due = {49, 24, 12, 6, 3, 1, 0, 0};
        for (int i = 0; i < due.length; i++) {
            x.night(1);
            a.due(due[i], "told(6) behind " + (i + 1), x.told(6));
            a.due(i + 1, "told(4)", x.told(4));
        }
        x = Asked.yardOf("y0 0;");
        x.rain(1);
        a.due(1, "night(1): the rain of 1 comes once", x.night(1));
        a.due(1, "night(1): and no more", x.night(1));
    }

    // ---- promise 13

    private void rainOutside() {
        a.sentence(13, "RAIN (0 .. 99): what it was. OUTSIDE");
        for (int n : new int[] {-1, 100, LEAST, MOST}) {
            a.refused(OUTSIDE, "rain(" + n + ")", Asked::busy, x -> x.rain(n));
            a.due(OUTSIDE, "rain(" + n + ") without a YARD: OUTSIDE comes first", new UnsaidWell().rain(n));
        }
        UnsaidWell x = Asked.yardOf("y0 0;");
        a.due(0, "rain(99)", x.rain(99));
        a.due(99, "told(6)", x.told(6));
        a.due(99, "rain(0)", x.rain(0));
        a.due(0, "rain(0)", x.rain(0));
        a.due(3, "told(15): that nothing changes is no matter", x.told(15));
    }

    private void rainNot() {
        a.sentence(13, "OUTSIDE, NOT: no YARD.");
        a.refused(NOT, "rain(0)", UnsaidWell::new, x -> x.rain(0));
        a.refused(NOT, "rain(99)", UnsaidWell::new, x -> x.rain(99));
    }

    // ---- promise 14

    private void queueUnknown() {
        a.sentence(14, "A PERSON comes to THE QUEUE for a SAYING: how many are in it. UNKNOWN");
        for (int p : new int[] {-1, 2, 5, LEAST, MOST}) {
            a.refused(UNKNOWN, "queue(" + p + ", 0)", Asked::busy, x -> x.queue(p, 0));
        }
        for (int s : new int[] {-1, 4, 10, 32, LEAST, MOST}) {
            a.refused(UNKNOWN, "queue(0, " + s + ")", Asked::busy, x -> x.queue(0, s));
        }
        UnsaidWell x = Asked.yardOf(Asked.CHAIN);
        a.due(1, "queue(4, 9): the last of each", x.queue(4, 9));
        a.due(UNKNOWN, "queue(5, 9)", x.queue(5, 9));
        a.due(UNKNOWN, "queue(4, 10)", x.queue(4, 10));
    }

    private static UnsaidWell sixQueued() {
        UnsaidWell x = Asked.yardOf(Asked.YARD);
        for (int i = 0; i < 6; i++) {
            x.queue(i % 2, i % 4);
        }
        return x;
    }

    private void queueFull() {
        a.sentence(14, "(6 at most; one may stand there again)");
        UnsaidWell x = Asked.yardOf(Asked.YARD);
        for (int i = 1; i <= 6; i++) {
            a.due(i, "queue(0, 0) again", x.queue(0, 0));
        }
        a.due(FULL, "queue(0, 0) as the seventh", x.queue(0, 0));
        a.refused(FULL, "queue(1, 1) as the seventh", DoneBoundariesTest::sixQueued, y -> y.queue(1, 1));
        a.due(UNKNOWN, "queue(2, 0) as the seventh: UNKNOWN comes first", x.queue(2, 0));
        a.due(UNKNOWN, "queue(0, 4) as the seventh: UNKNOWN comes first", x.queue(0, 4));
        x.vow(0, true);
        x.turn();
        a.due(6, "queue(1, 1) where one has left", x.queue(1, 1));
        a.due(1, "queued(5, 0)", x.queued(5, 0));
        // Nobody is turned away for what is UNSAID or VOWED, or for a thimble.
        x = Asked.yardOf("y9 0;p9;p1;s0 1 1;s0 1 1;");
        x.pour(0, 0);
        x.vow(1, true);
        a.due(1, "queue(0, 0), UNSAID", x.queue(0, 0));
        a.due(2, "queue(0, 1), VOWED", x.queue(0, 1));
        a.due(3, "queue(1, 0), an arm of 1 for another's", x.queue(1, 0));
    }

    // ---- promise 15

    private void turnNot() {
        a.sentence(15, "A TURN: pails that are drawn. NOT: nobody is in THE QUEUE.");
        a.refused(NOT, "turn()", UnsaidWell::new, x -> x.turn());
        a.refused(NOT, "turn()", Asked.YARD, x -> x.turn());
        UnsaidWell x = Asked.yardOf("y9 0;p9;s0 1 1;");
        x.queue(0, 0);
        a.due(1, "turn()", x.turn());
        a.due(0, "told(13)", x.told(13));
        a.due(NOT, "turn() where the last has left", x.turn());
    }

    private void turnLeaves() {
        a.sentence(15, "if it is UNSAID then, or he could pour nothing, he leaves");
        UnsaidWell x = Asked.yardOf("y9 0;p9;p1;s0 1 1;s0 1 1;s0 5 1;");
        x.queue(0, 0);
        x.queue(0, 0);
        x.queue(1, 1);
        x.vow(2, true);
        x.queue(0, 2);
        a.due(1, "turn(): UNSAID by it", x.turn());
        a.due(3, "told(13)", x.told(13));
        a.due(0, "turn(): UNSAID ahead of it", x.turn());
        a.due(2, "told(13)", x.told(13));
        a.due(0, "turn(): an arm of 1 for another's", x.turn());
        a.due(1, "told(13)", x.told(13));
        a.due(0, "turn(): VOWED", x.turn());
        a.due(0, "told(13)", x.told(13));
        a.due(9, "told(15): a turn of no pails is one", x.told(15));
        x = Asked.yardOf("y0 0;p9;s0 5 1;");
        x.queue(0, 0);
        a.due(0, "turn(): no water", x.turn());
        a.due(0, "told(13)", x.told(13));
    }

    private void turnToTheEnd() {
        a.sentence(15, "else he goes to the end (6 at most; one may stand there again)");
        UnsaidWell x = Asked.yardOf("y99 0;p9;p4;p4;s0 20 1;s1 20 1;s2 20 1;");
        for (int i = 0; i < 6; i++) {
            x.queue(i % 3, i % 3);
        }
        a.due(9, "turn() of a full queue", x.turn());
        a.due(6, "told(13)", x.told(13));
        a.due(1, "queued(0, 0)", x.queued(0, 0));
        a.due(1, "queued(0, 1)", x.queued(0, 1));
        a.due(0, "queued(5, 0)", x.queued(5, 0));
        a.due(0, "queued(5, 1)", x.queued(5, 1));
        x = Asked.yardOf("y99 0;p9;s0 20 1;");
        x.queue(0, 0);
        a.due(9, "turn() of one alone", x.turn());
        a.due(1, "told(13)", x.told(13));
        a.due(9, "turn() of the same", x.turn());
        a.due(2, "turn() of the same, the last pails", x.turn());
        a.due(0, "told(13)", x.told(13));
        x = Asked.yardOf("y1 0;p9;s0 20 1;");
        x.queue(0, 0);
        a.due(1, "turn() by the last pail of the well", x.turn());
        a.due(1, "told(13): it was not nothing", x.told(13));
        a.due(0, "turn() of the empty well", x.turn());
        a.due(0, "told(13)", x.told(13));
    }

    // ---- promise 16

    private void driftOutside() {
        a.sentence(16, "n NIGHTS (1 .. 60) BY DRAWS: LEVEL. OUTSIDE");
        for (int n : new int[] {0, -1, 61, LEAST, MOST}) {
            a.refused(OUTSIDE, "drift(" + n + ")", Asked::busy, x -> x.drift(n));
            a.due(OUTSIDE, "drift(" + n + ") without a YARD: OUTSIDE comes first", new UnsaidWell().drift(n));
        }
        UnsaidWell x = Asked.yardOf(Asked.YARD);
        x.drift(1);
        a.due(1, "told(4) behind drift(1)", x.told(4));
        x.drift(60);
        a.due(61, "told(4) behind drift(60)", x.told(4));
        a.due(2, "told(15): a call is one, however many nights", x.told(15));
    }

    private void driftNot() {
        a.sentence(16, "OUTSIDE, NOT: no YARD; FULL: NIGHTS are above 9000.");
        a.refused(NOT, "drift(1)", UnsaidWell::new, x -> x.drift(1));
        a.refused(NOT, "drift(60)", UnsaidWell::new, x -> x.drift(60));
    }

    private void driftFull() {
        a.sentence(16, "FULL: NIGHTS are above 9000.");
        UnsaidWell x = late(9000);
        x.drift(1);
        a.due(9001, "told(4): drift(1) at 9000 goes", x.told(4));
        a.due(FULL, "drift(1) at 9001", x.drift(1));
        a.due(FULL, "night(1) at 9001", x.night(1));
        a.due(OUTSIDE, "drift(0) at 9001: OUTSIDE comes first", x.drift(0));
        a.due(OUTSIDE, "drift(61) at 9001: OUTSIDE comes first", x.drift(61));
        x = late(9000);
        x.drift(60);
        a.due(9060, "told(4): drift(60) at 9000 goes", x.told(4));
        a.refused(FULL, "drift(60) at 9001", () -> late(9001), y -> y.drift(60));
    }

    /** THE SEED behind one more DRAW. */
    private static long drawn(long seed) {
        return (seed * 1103515245L + 12345L) % 2147483648L;
    }

    private static int of(long seed, int n) {
        return (int) (seed / 65536L % n);
    }

    private void driftWithoutPersons() {
        a.sentence(16, "ahead of each, if there are PERSONS and SAYINGS, three times a DRAW of PERSONS, of SAYINGS: he pours, if he can");
        for (String text : new String[] {"y0 1;", "y0 1;p9;p9;"}) {
            UnsaidWell x = Asked.yardOf(text);
            long seed = 0;
            int level = 0;
            int rain = 0;
            for (int i = 0; i < 30; i++) {
                seed = drawn(seed);
                if (of(seed, 4) == 0) {
                    seed = drawn(seed);
                    rain = of(seed, 30);
                }
                level = Math.min(99, level + 1 + rain);
                rain /= 2;
                a.due(level, "drift(1) of '" + text + "'", x.drift(1));
                a.due(rain, "told(6)", x.told(6));
                a.due((int) seed, "seed()", Asked.seedOf(x));
            }
        }
    }

    private void driftDraws() {
        a.sentence(16, "each DRAW it becomes it times 1103515245 and 12345, left over by 2 to the 31; the DRAW of n is it / 65536, left over by n");
        for (long first : new long[] {0, 1, 65535, 65536, 1073741824, 2147483646, 2147483647}) {
            driftAsByHand(first, Asked.YARD);
            driftAsByHand(first, "y3 2;p2;s0 3 1;");
            driftAsByHand(first, "y3 9;p1;p9;p2;p3;p4;" + "s0 1 1;".repeat(5) + "s4 3 1;".repeat(5));
        }
    }

    private void driftAsByHand(long first, String text) {
        UnsaidWell x = Asked.yardOf(text);
        UnsaidWell y = Asked.yardOf(text);
        int persons = x.told(0);
        int sayings = x.told(1);
        x.seed((int) first);
        long seed = first;
        for (int i = 0; i < 8; i++) {
            for (int k = 0; k < 3; k++) {
                long person = drawn(seed);
                seed = drawn(person);
                y.pour(of(person, persons), of(seed, sayings));
            }
            seed = drawn(seed);
            int chance = of(seed, 4);
            if (chance == 0) {
                seed = drawn(seed);
                y.rain(of(seed, 30));
            } else if (chance == 1) {
                seed = drawn(seed);
                y.say(of(seed, sayings));
            }
            a.due(y.night(1), "drift(1) from the seed " + first, x.drift(1));
            a.same(Asked.picture(y), "what is so", Asked.picture(x));
            a.due((int) seed, "the seed", Asked.seedOf(x));
        }
    }

    // ---- promise 17

    private void undoNot() {
        a.sentence(17, "The latest is undone: how many more can be. NOT: none.");
        a.refused(NOT, "undo()", UnsaidWell::new, x -> x.undo());
        a.refused(NOT, "undo()", Asked.YARD, x -> x.undo());
        UnsaidWell x = Asked.yardOf(Asked.YARD);
        x.rain(5);
        a.due(1, "told(15)", x.told(15));
        a.due(0, "undo()", x.undo());
        a.due(0, "told(6)", x.told(6));
        a.due(NOT, "undo() again", x.undo());
        a.due(0, "told(15)", x.told(15));
    }

    private void undoneAtMost() {
        a.sentence(17, "(16 at most are kept, the oldest are lost)");
        for (int done : new int[] {15, 16, 17, 18, 33, 50}) {
            UnsaidWell x = Asked.yardOf(Asked.YARD);
            for (int i = 1; i <= done; i++) {
                x.rain(i);
                a.due(Math.min(i, 16), "told(15) behind " + i, x.told(15));
            }
            int kept = Math.min(done, 16);
            for (int i = 1; i <= kept; i++) {
                a.due(kept - i, "undo() of " + done, x.undo());
                a.due(done - i, "told(6)", x.told(6));
            }
            a.due(NOT, "undo() of the oldest", x.undo());
            a.due(done - kept, "told(6)", x.told(6));
            x.rain(77);
            a.due(0, "undo() of a new one", x.undo());
            a.due(done - kept, "told(6)", x.told(6));
        }
    }

    private void undoneOfEach() {
        a.sentence(17, "UNDONE: the latest of pour(), say(), vow(), night(), rain(), queue(), turn(), drift() that was not refused");
        UnsaidWell x = Asked.yardOf(Asked.YARD);
        List<String> ahead = new ArrayList<>();
        for (int i = 0; i < 8; i++) {
            ahead.add(Asked.picture(x));
            doOne(x, i);
            a.due(i + 1, "told(15)", x.told(15));
        }
        for (int i = 7; i >= 0; i--) {
            a.due(i, "undo()", x.undo());
            a.same(ahead.get(i), "as ahead of it", Asked.picture(x));
        }
    }

    private static void doOne(UnsaidWell x, int which) {
        switch (which) {
            case 0: x.pour(0, 0); break;
            case 1: x.say(0); break;
            case 2: x.vow(2, true); break;
            case 3: x.night(2); break;
            case 4: x.rain(20); break;
            case 5: x.queue(1, 1); break;
            case 6: x.turn(); break;
            default: x.drift(2); break;
        }
    }

    private void seedStays() {
        a.sentence(17, "all of section 2 is as ahead of it; THE SEED stays");
        UnsaidWell x = Asked.yardOf(Asked.YARD);
        x.write(0, true);
        x.feed('y');
        x.drift(9);
        int seed = Asked.seedOf(x);
        x.undo();
        a.due(seed, "seed() behind undo()", x.seed(0));
        a.due(0, "told(4)", x.told(4));
        a.due(1, "told(14): the book stays", x.told(14));
        a.due(1, "told(3): the text stays", x.told(3));
        // feed, yard with a fault, write, tear, judge, seed and what is tried are not undone, nor do they end it.
        x.rain(8);
        x.tear();
        x.write(1, true);
        x.judge();
        x.seed(3);
        x.state(0, 1, 0);
        x.best(9, 0);
        x.alone(0, 0);
        x.wasUnsaid(0, 9, 0);
        x.drought(50);
        x.yard();
        a.due(1, "told(15)", x.told(15));
        a.due(0, "undo()", x.undo());
        a.due(0, "told(6)", x.told(6));
    }

    private void refusedIsNotUndone() {
        a.sentence(17, "What is refused changes nothing.");
        UnsaidWell x = Asked.yardOf(Asked.YARD);
        x.rain(5);
        x.pour(9, 9);
        x.say(9);
        x.vow(9, true);
        x.night(0);
        x.rain(100);
        x.queue(9, 9);
        x.turn();
        x.drift(61);
        x.goBack(0);
        x.keep(2);
        a.due(1, "told(15)", x.told(15));
        a.due(0, "undo()", x.undo());
        a.due(NONE, "queued(0, 0)", x.queued(0, 0));
        a.due(0, "told(6)", x.told(6));
    }
}
