import java.io.IOException;

/** The boundary cases that the document names for the book, the seed and the images: promises 24 to 29. */
public final class KeptBoundariesTest {
    private static final int NONE = Asked.NONE, UNKNOWN = Asked.UNKNOWN, OUTSIDE = Asked.OUTSIDE, NOT = Asked.NOT,
            FULL = Asked.FULL, LEAST = Asked.LEAST, MOST = Asked.MOST;
    private final Asked a = new Asked();

    private KeptBoundariesTest() throws IOException {
    }

    public static void main(String[] args) throws IOException {
        new KeptBoundariesTest().all();
    }

    private void all() {
        writeUnknown();
        writeFull();
        tearEmpty();
        judgeNone();
        judgeFirst();
        seedBounds();
        seedAtFirst();
        seedDrawn();
        keepUnknown();
        keepNothingUndone();
        keepAll();
        keepAnew();
        goBackUnknown();
        goBackNot();
        goBackNothingUndone();
        goBackWithoutYard();
        a.end(24, 29);
    }

    // ---- promise 24

    private void writeUnknown() {
        a.sentence(24, "An entry behind THE BOOK: how many. UNKNOWN");
        for (int s : new int[] {-1, 4, 10, 32, LEAST, MOST}) {
            a.refused(UNKNOWN, "write(" + s + ", true)", Asked::busy, x -> x.write(s, true));
            a.refused(UNKNOWN, "write(" + s + ", false)", Asked::busy, x -> x.write(s, false));
        }
        UnsaidWell ten = Asked.yardOf(Asked.CHAIN);
        a.due(1, "write(9, true)", ten.write(9, true));
        a.due(UNKNOWN, "write(10, true)", ten.write(10, true));
        a.due(1, "told(14)", ten.told(14));
    }

    private static UnsaidWell fullBook() {
        UnsaidWell x = Asked.yardOf(Asked.YARD);
        for (int i = 0; i < 15; i++) {
            x.write(i % 4, true);
        }
        return x;
    }

    private void writeFull() {
        a.sentence(24, "UNKNOWN, FULL (15).");
        UnsaidWell x = Asked.yardOf(Asked.YARD);
        for (int i = 1; i <= 15; i++) {
            a.due(i, "write(3, true)", x.write(3, true));
            a.due(i, "told(14)", x.told(14));
        }
        a.due(FULL, "write(3, true) as the 16th", x.write(3, true));
        a.due(UNKNOWN, "write(4, true) as the 16th: UNKNOWN comes first", x.write(4, true));
        a.refused(FULL, "write(0, false) as the 16th", KeptBoundariesTest::fullBook, y -> y.write(0, false));
        a.due(NONE, "judge() of 15 that are right", x.judge());
        a.due(15, "told(14)", x.told(14));
    }

    // ---- promise 25

    private void tearEmpty() {
        a.sentence(25, "THE BOOK is empty: how many entries it had.");
        a.due(0, "tear() without a YARD", new UnsaidWell().tear());
        a.due(0, "tear() of an empty one", Asked.yardOf(Asked.YARD).tear());
        UnsaidWell x = fullBook();
        a.due(15, "tear() of a full one", x.tear());
        a.due(0, "told(14)", x.told(14));
        a.due(0, "tear() again", x.tear());
        for (int i = 1; i <= 15; i++) {
            a.due(i, "write(0, false)", x.write(0, false));
        }
        a.due(FULL, "write(0, false) as the 16th", x.write(0, false));
        a.due(0, "judge(): what was torn is gone", x.judge());
        a.due(0, "told(15): it is not undone", x.told(15));
    }

    // ---- promise 26

    private void judgeNone() {
        a.sentence(26, "`int judge()`: WRONG; NONE.");
        a.due(NONE, "judge() without a YARD", new UnsaidWell().judge());
        a.due(NONE, "judge() of an empty one", Asked.yardOf(Asked.YARD).judge());
        a.due(NONE, "judge() of a full one", fullBook().judge());
        UnsaidWell x = Asked.yardOf(Asked.YARD);
        x.write(0, false);
        a.due(0, "judge()", x.judge());
        x.tear();
        a.due(NONE, "judge() behind tear()", x.judge());
    }

    private void judgeFirst() {
        a.sentence(26, "THE BOOK (15 at most) tells whether SAYINGS HOLD: WRONG: the first that is otherwise now; NONE.");
        UnsaidWell x = Asked.yardOf(Asked.YARD);
        for (int i = 0; i < 14; i++) {
            x.write(0, true);
        }
        x.write(3, false);
        a.due(14, "judge(): the last of 15", x.judge());
        x.pour(1, 1);
        a.due(NONE, "judge(): it fell with another", x.judge());
        x.pour(0, 0);
        a.due(NONE, "judge(): WET is no matter", x.judge());
        x.pour(0, 0);
        a.due(0, "judge(): the first", x.judge());
        x.undo();
        a.due(NONE, "judge() behind undo()", x.judge());
        x = Asked.yardOf(Asked.YARD);
        x.write(0, true);
        x.write(0, false);
        a.due(1, "judge() of both", x.judge());
        x.pour(0, 0);
        x.pour(0, 0);
        a.due(0, "judge() of both, then", x.judge());
    }

    // ---- promise 27

    private void seedBounds() {
        a.sentence(27, "THE SEED becomes v (0 .. 2147483647): what it was. OUTSIDE.");
        for (int v : new int[] {-1, -2, LEAST}) {
            a.refused(OUTSIDE, "seed(" + v + ")", Asked::busy, x -> x.seed(v));
        }
        UnsaidWell x = new UnsaidWell();
        a.due(0, "seed(2147483647)", x.seed(2147483647));
        a.due(2147483647, "seed(2147483646)", x.seed(2147483646));
        a.due(2147483646, "seed(1)", x.seed(1));
        a.due(1, "seed(0)", x.seed(0));
        a.due(0, "seed(0)", x.seed(0));
        a.due(0, "told(15)", x.told(15));
    }

    private void seedAtFirst() {
        a.sentence(27, "THE SEED (0 at first");
        a.due(0, "seed(7)", new UnsaidWell().seed(7));
        a.due(0, "seed(7)", Asked.yardOf(Asked.YARD).seed(7));
    }

    private void seedDrawn() {
        a.sentence(27, "left over by 2 to the 31");
        // A yard without persons makes a DRAW of 4 a night, and one of 30 where that is 0.
        long[] firsts = {0, 1, 2147483646, 2147483647};
        for (long first : firsts) {
            UnsaidWell x = Asked.yardOf("y0 0;");
            x.seed((int) first);
            x.drift(1);
            long seed = (first * 1103515245L + 12345L) % 2147483648L;
            int rain = 0;
            if (seed / 65536L % 4 == 0) {
                seed = (seed * 1103515245L + 12345L) % 2147483648L;
                rain = (int) (seed / 65536L % 30);
            }
            a.due((int) seed, "seed() behind a drift(1) from " + first, x.seed(0));
            a.due(rain, "told(5)", x.told(5));
        }
        UnsaidWell x = Asked.yardOf("y0 0;");
        x.drift(1);
        // 12345 / 65536 is 0: RAIN is drawn from 1103515245 * 12345 + 12345, left over: 1406932606.
        a.due(1406932606, "seed() behind a drift(1) from 0", x.seed(0));
        a.due(1406932606 / 65536 % 30, "told(5)", x.told(5));
    }

    // ---- promise 28

    private void keepUnknown() {
        a.sentence(28, "IMAGE i becomes what is so (nothing can be undone then): 1. UNKNOWN.");
        for (int i : new int[] {-1, 2, 3, LEAST, MOST}) {
            a.refused(UNKNOWN, "keep(" + i + ")", Asked::busy, x -> x.keep(i));
            a.due(UNKNOWN, "keep(" + i + ") without a YARD", new UnsaidWell().keep(i));
        }
        UnsaidWell x = Asked.yardOf(Asked.YARD);
        a.due(1, "keep(0)", x.keep(0));
        a.due(1, "keep(1)", x.keep(1));
        a.due(1, "keep(1) again", x.keep(1));
    }

    private void keepNothingUndone() {
        a.sentence(28, "(nothing can be undone then): 1. UNKNOWN.");
        UnsaidWell x = Asked.busy();
        String now = Asked.picture(x);
        a.due(4, "told(15)", x.told(15));
        x.keep(0);
        a.due(0, "told(15)", x.told(15));
        a.due(NOT, "undo()", x.undo());
        a.same(now, "what is so", Asked.picture(x));
        a.due(2, "told(14): the book stays", x.told(14));
        a.due(6, "told(3): the text stays", x.told(3));
        x.rain(1);
        a.due(0, "undo() of what came behind it", x.undo());
        a.due(NOT, "undo() of what came ahead of it", x.undo());
        x = Asked.yardOf(Asked.YARD);
        for (int i = 1; i <= 20; i++) {
            x.rain(i);
        }
        x.keep(1);
        a.due(NOT, "undo() of 16", x.undo());
    }

    private void keepAll() {
        a.sentence(28, "IMAGES 0, 1 keep all of section 2, THE SEED.");
        UnsaidWell x = Asked.yardOf(Asked.YARD);
        x.seed(MOST);
        x.pour(1, 1);
        x.pour(0, 0);
        x.vow(2, true);
        x.rain(33);
        x.queue(1, 3);
        String first = Asked.picture(x);
        x.keep(0);
        x.drift(20);
        x.say(1);
        x.turn();
        x.queue(0, 0);
        x.queue(0, 1);
        String second = Asked.picture(x);
        int seed = Asked.seedOf(x);
        x.keep(1);
        x.drift(20);
        x.write(0, true);
        for (int round = 0; round < 2; round++) {
            a.due(1, "goBack(0)", x.goBack(0));
            a.same(first, "as it was kept", Asked.picture(x));
            a.due(MOST, "the seed", x.seed(5));
            a.due(1, "told(14): the book stays", x.told(14));
            a.due(1, "goBack(1)", x.goBack(1));
            a.same(second, "as it was kept", Asked.picture(x));
            a.due(seed, "the seed", x.seed(5));
            x.drift(3);
        }
    }

    private void keepAnew() {
        a.sentence(28, "`int keep(int i)`: IMAGE i becomes what is so");
        UnsaidWell x = Asked.yardOf(Asked.YARD);
        x.rain(1);
        x.keep(0);
        x.rain(2);
        x.keep(1);
        x.rain(3);
        x.keep(0);
        x.rain(4);
        x.goBack(1);
        a.due(2, "told(6) of IMAGE 1", x.told(6));
        x.goBack(0);
        a.due(3, "told(6) of IMAGE 0, the newer", x.told(6));
        // What is done behind goBack() does not touch the IMAGE.
        x.rain(9);
        x.queue(0, 0);
        x.pour(0, 0);
        x.goBack(0);
        a.due(3, "told(6) of IMAGE 0, again", x.told(6));
        a.due(0, "told(13)", x.told(13));
        a.due(0, "saying(0, 3)", x.saying(0, 3));
    }

    // ---- promise 29

    private void goBackUnknown() {
        a.sentence(29, "What is so becomes IMAGE i (nothing can be undone then): 1. UNKNOWN");
        for (int i : new int[] {-1, 2, 3, LEAST, MOST}) {
            a.refused(UNKNOWN, "goBack(" + i + ")", Asked::busy, x -> x.goBack(i));
            a.due(UNKNOWN, "goBack(" + i + ") where none was kept", new UnsaidWell().goBack(i));
        }
    }

    private static UnsaidWell oneKept(int i) {
        UnsaidWell x = Asked.yardOf(Asked.YARD);
        x.keep(i);
        x.rain(7);
        x.seed(9);
        return x;
    }

    private void goBackNot() {
        a.sentence(29, "UNKNOWN, NOT: it was not kept.");
        for (int i = 0; i < 2; i++) {
            int other = 1 - i;
            a.refused(NOT, "goBack(" + other + "), none was kept", UnsaidWell::new, x -> x.goBack(other));
            a.refused(NOT, "goBack(" + other + "), the other was kept", () -> oneKept(1 - other), x -> x.goBack(other));
            UnsaidWell x = oneKept(i);
            a.due(1, "goBack(" + i + ")", x.goBack(i));
            a.due(0, "told(6)", x.told(6));
            a.due(NOT, "goBack(" + other + ")", x.goBack(other));
            Asked.feed(x, Asked.YARD);
            x.yard();
            a.due(NOT, "goBack(" + i + ") in a new YARD", x.goBack(i));
        }
        // A fault leaves them.
        UnsaidWell x = oneKept(0);
        x.feed('?');
        x.yard();
        a.due(1, "goBack(0) behind a fault", x.goBack(0));
    }

    private void goBackNothingUndone() {
        a.sentence(29, "IMAGE i (nothing can be undone then): 1. UNKNOWN, NOT");
        UnsaidWell x = oneKept(1);
        x.rain(8);
        a.due(2, "told(15)", x.told(15));
        x.goBack(1);
        a.due(0, "told(15)", x.told(15));
        a.due(NOT, "undo()", x.undo());
        x.rain(6);
        a.due(1, "told(15)", x.told(15));
        a.due(0, "undo()", x.undo());
        a.due(0, "told(6)", x.told(6));
    }

    private void goBackWithoutYard() {
        a.sentence(29, "`int goBack(int i)`: What is so becomes IMAGE i");
        UnsaidWell x = new UnsaidWell();
        x.seed(5);
        a.due(1, "keep(0) without a YARD", x.keep(0));
        x.seed(6);
        a.due(1, "goBack(0) without a YARD", x.goBack(0));
        a.due(5, "seed()", x.seed(7));
        a.due(NOT, "goBack(1) without a YARD", x.goBack(1));
        Asked.feed(x, "y1 1;");
        x.yard();
        a.due(NOT, "goBack(0): it is gone with the new YARD", x.goBack(0));
    }
}
