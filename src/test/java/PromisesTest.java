/** Each promise of the document by number: ordinary calls, its edges, and wrong arguments. */
public final class PromisesTest {
    private static final int NONE = -1, UNKNOWN = -1000000001, OUTSIDE = -1000000002, NOT = -1000000003, FULL = -1000000004;
    /** Two persons; 2 follows from 0 and 1, 3 from 2. Worths 10, -10, 30, -40. */
    private static final String YARD = "y12 3;p4;p3;s0 5 60;s1 3 40;s0 4 80;s1 2 10;f0 2;f1 2;f2 3;";
    private static int wrong = 0;
    private static int asked = 0;

    private static void due(int promise, String what, int want, int got) {
        asked++;
        if (got != want) {
            wrong++;
            System.out.println("promise " + promise + ": " + what + " answered " + got + ", due is " + want);
        }
    }

    private static void feed(UnsaidWell x, String text) {
        for (int i = 0; i < text.length(); i++) {
            x.feed(text.charAt(i));
        }
    }

    private static UnsaidWell yardOf(String text) {
        UnsaidWell x = new UnsaidWell();
        feed(x, text);
        int answer = x.yard();
        if (answer < 0) {
            due(3, "yard() of a good text '" + text + "'", 0, answer);
        }
        return x;
    }

    /** All that told() tells but THE TEXT, THE BOOK and what can be undone: section 2 and the yard. */
    private static String picture(UnsaidWell x) {
        StringBuilder all = new StringBuilder();
        for (int what = 0; what <= 16; what++) {
            if (what != 3 && what != 14 && what != 15) {
                all.append(x.told(what)).append(' ');
            }
        }
        for (int s = 0; s < x.told(1); s++) {
            all.append(x.saying(s, 3)).append(' ');
        }
        for (int n = 0; n < 6; n++) {
            all.append(x.queued(n, 0)).append(',').append(x.queued(n, 1)).append(' ');
        }
        return all.toString();
    }

    private static void same(int promise, String what, String want, String got) {
        due(promise, what + " [" + want + "] [" + got + "]", 1, want.equals(got) ? 1 : 0);
    }

    public static void main(String[] args) {
        constants();
        newObject();
        feeding();
        yards();
        faults();
        told();
        sayings();
        persons();
        queued();
        pouring();
        saidAgain();
        vows();
        nights();
        rain();
        queue();
        turns();
        drifts();
        undone();
        undoneMany();
        states();
        bests();
        alone();
        wasUnsaid();
        droughts();
        rainy();
        book();
        seeds();
        images();
        refusalsChangeNothing();
        System.out.println(asked + " asked, " + wrong + " wrong");
        if (wrong != 0) {
            System.exit(1);
        }
    }

    private static void constants() {
        due(0, "NONE", NONE, UnsaidWell.NONE);
        due(0, "UNKNOWN", UNKNOWN, UnsaidWell.UNKNOWN);
        due(0, "OUTSIDE", OUTSIDE, UnsaidWell.OUTSIDE);
        due(0, "NOT", NOT, UnsaidWell.NOT);
        due(0, "FULL", FULL, UnsaidWell.FULL);
    }

    private static void newObject() {
        UnsaidWell x = new UnsaidWell();
        for (int what = 0; what <= 16; what++) {
            due(1, "told(" + what + ")", what == 11 ? 1000 : what == 12 ? NONE : 0, x.told(what));
        }
        due(1, "fault()", NONE, x.fault());
        due(1, "saying(0, 0)", UNKNOWN, x.saying(0, 0));
        due(1, "saying(0, 99)", UNKNOWN, x.saying(0, 99));
        due(1, "person(0, 0)", UNKNOWN, x.person(0, 0));
        due(1, "queued(0, 0)", NONE, x.queued(0, 0));
        due(1, "pour(0, 0)", UNKNOWN, x.pour(0, 0));
        due(1, "say(0)", UNKNOWN, x.say(0));
        due(1, "vow(0, true)", UNKNOWN, x.vow(0, true));
        due(1, "queue(0, 0)", UNKNOWN, x.queue(0, 0));
        due(1, "alone(0, 0)", UNKNOWN, x.alone(0, 0));
        due(1, "write(0, true)", UNKNOWN, x.write(0, true));
        due(1, "state(1, 0, 0)", UNKNOWN, x.state(1, 0, 0));
        due(1, "state(0, 0, 1)", 0, x.state(0, 0, 1));
        due(1, "wasUnsaid(0, 1, 0)", 0, x.wasUnsaid(0, 1, 0));
        due(1, "wasUnsaid(0, 1, 1)", NONE, x.wasUnsaid(0, 1, 1));
        due(1, "wasUnsaid(0, 0, 2)", NONE, x.wasUnsaid(0, 0, 2));
        due(1, "goBack(0)", NOT, x.goBack(0));
        due(1, "seed(0)", 0, x.seed(0));
        due(1, "tear()", 0, x.tear());
    }

    private static void feeding() {
        UnsaidWell x = new UnsaidWell();
        due(2, "feed(-1)", OUTSIDE, x.feed(-1));
        due(2, "feed(256)", OUTSIDE, x.feed(256));
        due(2, "told(3)", 0, x.told(3));
        due(2, "feed(0)", 1, x.feed(0));
        due(2, "feed(255)", 2, x.feed(255));
        for (int i = 3; i <= 240; i++) {
            due(2, "feed(32)", i, x.feed(32));
        }
        due(2, "feed(32) as the 241st", FULL, x.feed(32));
        due(2, "feed(300) as the 241st", OUTSIDE, x.feed(300));
        due(2, "told(3)", 240, x.told(3));
        due(2, "yard()", -11, x.yard());
        due(2, "feed(32) again", 1, x.feed(32));
    }

    private static void yards() {
        UnsaidWell x = yardOf(YARD);
        due(3, "told(3) behind yard()", 0, x.told(3));
        x.pour(0, 0);
        x.vow(1, true);
        x.rain(7);
        x.queue(0, 0);
        x.write(0, true);
        x.seed(77);
        x.keep(1);
        x.night(1);
        String before = picture(x);
        feed(x, "y5 5;p1;?");
        due(3, "yard() with a fault", -11, x.yard());
        due(3, "told(3) behind a fault", 0, x.told(3));
        same(3, "a fault changes nothing", before, picture(x));
        due(3, "a fault leaves the book", 1, x.told(14));
        due(3, "a fault leaves what can be undone", 1, x.told(15));
        due(3, "a fault leaves the images", 1, x.goBack(1));
        x.night(1);
        feed(x, YARD);
        due(3, "yard() again", 4, x.yard());
        same(3, "a new yard", picture(yardOf(YARD)), picture(x));
        due(3, "no book", 0, x.told(14));
        due(3, "nothing to undo", 0, x.told(15));
        due(3, "undo()", NOT, x.undo());
        due(3, "no image", NOT, x.goBack(1));
        due(3, "the seed stays", 77, x.seed(1));
        feed(x, "   ");
        due(3, "yard() of blanks", 0, x.yard());
        due(3, "no yard: night(1)", NOT, x.night(1));
        same(3, "no yard", picture(new UnsaidWell()), picture(x));
        due(3, "the seed stays", 1, x.seed(2));
        feed(x, "y5 5;");
        due(3, "yard() without sayings", 0, x.yard());
        due(3, "night(1)", 10, x.night(1));
        due(3, "yard() of an empty text", 0, x.yard());
        due(3, "no yard: rain(1)", NOT, x.rain(1));
        due(3, "nothing to undo", NOT, x.undo());
        x = yardOf("  y 012   3 ; p4 ;p 3;s0 5 60;  s 1 003 40;f 0 1  ;  ");
        due(3, "blanks and noughts: level", 12, x.told(5));
        due(3, "blanks and noughts: follows", 1, x.saying(1, 7));
        due(3, "blanks and noughts: weighs", 3, x.saying(1, 1));
        x = yardOf("y99 20;p1;p2;p3;p4;p9;s4 20 99;s0 1 0;");
        due(3, "the greatest level", 99, x.told(5));
        due(3, "the greatest spring", 20, x.told(16));
        due(3, "the greatest arm", 9, x.person(4, 0));
        due(3, "the greatest weight", 20, x.saying(0, 1));
        due(3, "the greatest worth", 1049, x.saying(0, 2));
        due(3, "the least worth", 950, x.saying(1, 2));
    }

    private static void fault(String text, int kind, int at) {
        UnsaidWell x = new UnsaidWell();
        feed(x, text);
        due(3, "yard() of '" + text + "'", -10 - kind, x.yard());
        due(4, "fault() of '" + text + "'", at, x.fault());
    }

    private static void faults() {
        String one = "y0 0;p1;s0 1 1;s0 1 1;";
        fault("x", 1, 0);
        fault(" s", 1, 1);
        fault("f0 1;", 1, 0);
        fault(";", 1, 0);
        fault("7", 1, 0);
        fault("Y0 0;", 1, 0);
        fault("\t", 1, 0);
        fault("y", 1, 1);
        fault("y  ", 1, 3);
        fault("y1", 1, 2);
        fault("y1;", 1, 2);
        fault("y1 1", 1, 4);
        fault("y1 1 1;", 1, 5);
        fault("y1 1p", 1, 4);
        fault("yy", 1, 1);
        fault("y1 -1;", 1, 3);
        fault("y1 1;;", 1, 5);
        fault("y1 1;q", 1, 5);
        fault("y1 1;p;", 1, 6);
        fault("y1 1;p1 1;", 1, 8);
        fault("y1 1;p1;s0 1;", 1, 12);
        fault(one + "f0;", 1, 24);
        fault(one + "f0 1 1;", 1, 27);
        fault("y0001 1;", 2, 1);
        fault("y1234567890123456789 1;", 2, 1);
        fault("y100 1;", 2, 1);
        fault("y 100x", 2, 2);
        fault("y1 21;", 2, 3);
        fault("y1 1;p0;", 2, 6);
        fault("y1 1;p10;", 2, 6);
        fault("y1 1;s0 1 1;", 2, 6);
        fault("y1 1;p1;s1 1 1;", 2, 9);
        fault("y1 1;p1;s0 0 1;", 2, 11);
        fault("y1 1;p1;s0 21 1;", 2, 11);
        fault("y1 1;p1;s0 20 100;", 2, 14);
        fault("y1 1;f0 1;", 2, 6);
        fault(one + "f2 0;", 2, 23);
        fault(one + "f0 2;", 2, 25);
        fault(one + "f1 2;", 2, 25);
        fault("y1 1;y", 3, 5);
        fault("y1 1;  y1 1;", 3, 7);
        fault("y1 1;p1;p1;p1;p1;p1;p1;", 3, 20);
        fault("y1 1;p1;p1;p1;p1;p1;px", 3, 20);
        StringBuilder text = new StringBuilder("y1 1;p1;");
        for (int i = 0; i < 10; i++) {
            text.append("s0 1 1;");
        }
        due(3, "ten sayings", 10, yardOf(text.toString()).told(1));
        fault(text + "s", 3, 78);
        int links = 0;
        for (int b = 1; b <= 5; b++) {
            for (int a = 0; a < b; a++) {
                text.append('f').append(a).append(' ').append(b).append(';');
                links++;
            }
        }
        due(3, "15 follow", links, yardOf(text.toString()).told(2));
        fault(text + "f0 0;", 3, 78 + 15 * 5);
        fault(one + "f0 0;", 4, 25);
        fault(one + "f1 0;", 4, 25);
        fault(one + "f0 1;f0  01;", 4, 31);
        UnsaidWell x = new UnsaidWell();
        feed(x, "p");
        x.yard();
        due(4, "fault()", 0, x.fault());
        due(4, "fault() again", 0, x.fault());
        feed(x, "y1 1;");
        due(4, "fault() ahead of the next yard()", 0, x.fault());
        x.yard();
        due(4, "fault() behind a good text", NONE, x.fault());
        feed(x, "q");
        x.yard();
        x.yard();
        due(4, "fault() behind an empty text", NONE, x.fault());
    }

    private static void told() {
        UnsaidWell x = yardOf(YARD);
        int[] first = {2, 4, 3, 0, 0, 12, 0, 15, 0, 0, 0, 990, 0, 0, 0, 0, 3};
        for (int what = 0; what < first.length; what++) {
            due(5, "told(" + what + ")", first[what], x.told(what));
        }
        x.pour(0, 0);
        x.pour(1, 1);
        x.night(1);
        x.rain(9);
        x.vow(2, true);
        x.queue(0, 0);
        x.write(1, true);
        x.pour(0, 0);
        x.feed('y');
        int[] then = {2, 4, 3, 1, 1, 7, 9, 0, 3, 4, 1, 1000, NONE, 1, 1, 7, 3};
        for (int what = 0; what < then.length; what++) {
            due(5, "told(" + what + ") then", then[what], x.told(what));
        }
        due(5, "told(-1)", OUTSIDE, x.told(-1));
        due(5, "told(17)", OUTSIDE, x.told(17));
        due(5, "heaviest of like ones", 0, yardOf("y9 1;p1;s0 1 1;s0 1 1;").told(12));
        due(5, "heaviest", 1, yardOf("y9 1;p1;s0 1 1;s0 1 1;s0 1 1;f1 2;").told(12));
    }

    private static void sayings() {
        // 0 and 1 are roots; 2 from 0; 3 from 1 and 2; 4 from 0 and 3; 5 alone.
        UnsaidWell x = yardOf("y50 3;p9;p3;s0 5 60;s1 3 40;s0 4 80;s1 2 10;s0 7 0;s1 20 99;f0 4;f1 3;f2 3;f0 2;f3 4;");
        int[][] want = {
            {0, 1, 0, 1, 0, 1}, {5, 3, 4, 2, 7, 20}, {1010, 990, 1030, 960, 950, 1049}, {0, 0, 0, 0, 0, 0},
            {0, 0, 1, 2, 3, 0}, {1, 2, 1, 3, 3, 32}, {29, 26, 28, 24, 16, 32}, {0, 0, 1, 6, 9, 0}};
        for (int what = 0; what < want.length; what++) {
            for (int s = 0; s < 6; s++) {
                due(6, "saying(" + s + ", " + what + ")", want[what][s], x.saying(s, what));
            }
        }
        x.pour(0, 2);
        due(6, "falls of what is unsaid", 0, x.saying(2, 6));
        due(6, "falls of what does not hold", 0, x.saying(3, 6));
        due(6, "falls of what still holds", 1, x.saying(0, 6));
        due(6, "roots stay", 3, x.saying(4, 5));
        x.pour(0, 4);
        due(6, "wet of what is unsaid", 0, x.saying(2, 3));
        due(6, "saying(-1, 0)", UNKNOWN, x.saying(-1, 0));
        due(6, "saying(6, 0)", UNKNOWN, x.saying(6, 0));
        due(6, "saying(6, 8)", UNKNOWN, x.saying(6, 8));
        due(6, "saying(0, 8)", OUTSIDE, x.saying(0, 8));
        due(6, "saying(0, -1)", OUTSIDE, x.saying(0, -1));
    }

    private static void persons() {
        UnsaidWell x = yardOf("y50 3;p9;p3;p5;s0 5 60;s1 3 40;s0 4 80;s2 2 10;f0 1;f1 2;f0 2;f2 3;");
        int[][] want = {{9, 3, 5}, {5, 2, 8}, {2, 1, 1}, {27, 9, 14}};
        for (int what = 0; what < want.length; what++) {
            for (int p = 0; p < 3; p++) {
                due(7, "person(" + p + ", " + what + ")", want[what][p], x.person(p, what));
            }
        }
        x.pour(2, 3);
        due(7, "share of 48", 26, x.person(0, 3));
        due(7, "share of 48", 8, x.person(1, 3));
        due(7, "share of 48", 14, x.person(2, 3));
        x = yardOf("y3 0;p1;p1;p1;p1;p1;");
        for (int p = 0; p < 5; p++) {
            due(7, "share of 3 by 5", p < 3 ? 1 : 0, x.person(p, 3));
        }
        due(7, "person(-1, 0)", UNKNOWN, x.person(-1, 0));
        due(7, "person(5, 4)", UNKNOWN, x.person(5, 4));
        due(7, "person(0, 4)", OUTSIDE, x.person(0, 4));
        due(7, "person(0, -1)", OUTSIDE, x.person(0, -1));
    }

    private static void queued() {
        UnsaidWell x = yardOf(YARD);
        x.queue(1, 3);
        x.queue(0, 2);
        due(8, "queued(0, 0)", 1, x.queued(0, 0));
        due(8, "queued(0, 1)", 3, x.queued(0, 1));
        due(8, "queued(1, 0)", 0, x.queued(1, 0));
        due(8, "queued(1, 1)", 2, x.queued(1, 1));
        due(8, "queued(2, 0)", NONE, x.queued(2, 0));
        due(8, "queued(-1, 1)", NONE, x.queued(-1, 1));
        due(8, "queued(2147483647, 1)", NONE, x.queued(2147483647, 1));
        due(8, "queued(0, 2)", OUTSIDE, x.queued(0, 2));
        due(8, "queued(0, -1)", OUTSIDE, x.queued(0, -1));
        due(8, "queued(9, 2)", OUTSIDE, x.queued(9, 2));
    }

    private static void pouring() {
        UnsaidWell x = yardOf("y12 3;p4;p3;p1;s0 5 60;s1 3 40;");
        due(9, "his own, by arm", 4, x.pour(0, 0));
        due(9, "wet", 4, x.saying(0, 3));
        due(9, "another's, by an even part of the arm", 2, x.pour(1, 0));
        due(9, "it is unsaid", 1, x.told(8));
        due(9, "and dry", 0, x.saying(0, 3));
        due(9, "level", 6, x.told(5));
        due(9, "cobbles", 6, x.told(10));
        due(9, "it is unsaid", NOT, x.pour(0, 0));
        due(9, "an arm of one for another's", NOT, x.pour(2, 1));
        due(9, "another's", 4, x.pour(0, 1));
        due(9, "wet by half", 2, x.saying(1, 3));
        due(9, "another's, no more than it needs", 2, x.pour(0, 1));
        due(9, "it is unsaid", 3, x.told(8));
        due(9, "the well is empty", 0, x.told(5));
        x.say(0);
        due(9, "no water", NOT, x.pour(0, 0));
        x = yardOf("y3 0;p9;p9;s0 5 60;s0 5 60;");
        due(9, "another's, by an even part of the level", 2, x.pour(1, 0));
        due(9, "a pail is too few for another's", NOT, x.pour(1, 0));
        due(9, "his own, by level", 1, x.pour(0, 0));
        due(9, "wet", 2, x.saying(0, 3));
        x = yardOf("y9 0;p9;s0 5 60;s0 5 60;");
        x.vow(0, true);
        due(9, "vowed", NOT, x.pour(0, 0));
        x.vow(0, false);
        due(9, "vowed no more", 5, x.pour(0, 0));
        due(9, "pour(1, 0)", UNKNOWN, x.pour(1, 0));
        due(9, "pour(-1, 0)", UNKNOWN, x.pour(-1, 0));
        due(9, "pour(0, 2)", UNKNOWN, x.pour(0, 2));
        due(9, "pour(0, -1)", UNKNOWN, x.pour(0, -1));
        due(9, "only what was poured can be undone", 3, x.told(15));
    }

    private static void saidAgain() {
        UnsaidWell x = yardOf(YARD);
        x.pour(0, 0);
        due(10, "say(0), wet", 4, x.say(0));
        due(10, "dry", 0, x.saying(0, 3));
        x.pour(1, 1);
        x.vow(1, true);
        due(10, "what follows from it falls", 1, x.told(7));
        due(10, "say(1), unsaid", 0, x.say(1));
        due(10, "it is said", 0, x.told(8));
        due(10, "all hold", 15, x.told(7));
        due(10, "it stays vowed", 2, x.told(9));
        due(10, "level stays", 5, x.told(5));
        due(10, "cobbles stay", 7, x.told(10));
        due(10, "say(4)", UNKNOWN, x.say(4));
        due(10, "say(-1)", UNKNOWN, x.say(-1));
    }

    private static void vows() {
        UnsaidWell x = yardOf(YARD);
        due(11, "vow(2, true)", 0, x.vow(2, true));
        due(11, "vow(0, false)", 0, x.vow(0, false));
        due(11, "vow(2, true) again", 1, x.vow(2, true));
        due(11, "vowed", 4, x.told(9));
        due(11, "vow(2, false)", 1, x.vow(2, false));
        due(11, "vowed", 0, x.told(9));
        due(11, "each can be undone", 4, x.told(15));
        due(11, "vow(4, true)", UNKNOWN, x.vow(4, true));
        due(11, "vow(-1, false)", UNKNOWN, x.vow(-1, false));
    }

    private static void nights() {
        UnsaidWell x = yardOf(YARD);
        x.pour(0, 0);
        due(12, "night(1)", 11, x.night(1));
        due(12, "dry cobbles", 0, x.told(10));
        due(12, "it stays wet", 4, x.saying(0, 3));
        x.rain(9);
        due(12, "night(3)", 11 + 9 + 9 + 4 + 2, x.night(3));
        due(12, "rain", 1, x.told(6));
        due(12, "nights", 4, x.told(4));
        due(12, "night(60)", 99, x.night(60));
        due(12, "night(0)", OUTSIDE, x.night(0));
        due(12, "night(61)", OUTSIDE, x.night(61));
        due(12, "night(-5)", OUTSIDE, x.night(-5));
        due(12, "night(0) without a yard", OUTSIDE, new UnsaidWell().night(0));
        due(12, "night(1) without a yard", NOT, new UnsaidWell().night(1));
        x = yardOf("y1 0;");
        for (int i = 0; i < 150; i++) {
            x.night(60);
        }
        due(12, "nights", 9000, x.told(4));
        due(12, "night(60) at 9000", 1, x.night(60));
        due(12, "nights", 9060, x.told(4));
        due(12, "night(1) above 9000", FULL, x.night(1));
        due(12, "night(61) above 9000", OUTSIDE, x.night(61));
        due(16, "drift(1) above 9000", FULL, x.drift(1));
        due(16, "drift(0) above 9000", OUTSIDE, x.drift(0));
        x.undo();
        x.drift(1);
        due(16, "drift(1) at 9000", 9001, x.told(4));
        due(16, "drift(1) at 9001", FULL, x.drift(1));
    }

    private static void rain() {
        UnsaidWell x = yardOf(YARD);
        due(13, "rain(99)", 0, x.rain(99));
        due(13, "rain(0)", 99, x.rain(0));
        due(13, "rain(100)", OUTSIDE, x.rain(100));
        due(13, "rain(-1)", OUTSIDE, x.rain(-1));
        due(13, "rain", 0, x.told(6));
        due(13, "rain(100) without a yard", OUTSIDE, new UnsaidWell().rain(100));
        due(13, "rain(0) without a yard", NOT, new UnsaidWell().rain(0));
    }

    private static void queue() {
        UnsaidWell x = yardOf(YARD);
        for (int i = 1; i <= 6; i++) {
            due(14, "queue(0, 0)", i, x.queue(0, 0));
        }
        due(14, "queue(0, 0) as the seventh", FULL, x.queue(0, 0));
        due(14, "queue(2, 0)", UNKNOWN, x.queue(2, 0));
        due(14, "queue(0, 4)", UNKNOWN, x.queue(0, 4));
        due(14, "queue(-1, 0)", UNKNOWN, x.queue(-1, 0));
        due(14, "queue(0, -1)", UNKNOWN, x.queue(0, -1));
        due(14, "in the queue", 6, x.told(13));
        x = yardOf(YARD);
        x.pour(1, 1);
        x.vow(0, true);
        due(14, "for what is unsaid", 1, x.queue(1, 1));
        due(14, "for what is vowed", 2, x.queue(0, 0));
    }

    private static void turns() {
        UnsaidWell x = yardOf("y12 3;p4;p3;s0 5 60;s1 3 40;");
        due(15, "turn() of nobody", NOT, x.turn());
        x.queue(0, 0);
        x.queue(1, 1);
        x.queue(1, 0);
        due(15, "he goes to the end", 4, x.turn());
        due(15, "three", 3, x.told(13));
        due(15, "at the end", 0, x.queued(2, 0));
        due(15, "for the same", 0, x.queued(2, 1));
        due(15, "it is unsaid: he leaves", 3, x.turn());
        due(15, "two", 2, x.told(13));
        due(15, "the next", 0, x.queued(0, 1));
        due(15, "it is unsaid: he leaves", 2, x.turn());
        due(15, "it was unsaid: he leaves", 0, x.turn());
        due(15, "nobody", 0, x.told(13));
        due(15, "turn() of nobody", NOT, x.turn());
        due(15, "a turn of no pails can be undone", 7, x.told(15));
        due(15, "cobbles", 9, x.told(10));
        x.say(0);
        x.vow(0, true);
        x.queue(0, 0);
        due(15, "it is vowed: he leaves", 0, x.turn());
        due(15, "nobody", 0, x.told(13));
        x = yardOf("y12 3;p4;s0 20 60;");
        for (int i = 0; i < 6; i++) {
            x.queue(0, 0);
        }
        due(15, "a full queue turns", 4, x.turn());
        due(15, "six", 6, x.told(13));
    }

    private static int draw(long[] seed, int n) {
        seed[0] = (seed[0] * 1103515245L + 12345L) % 2147483648L;
        return (int) (seed[0] / 65536L % n);
    }

    private static void drifts() {
        UnsaidWell x = yardOf("y5 1;");
        long[] seed = {0};
        int level = 5;
        int rain = 0;
        for (int i = 0; i < 60; i++) {
            if (draw(seed, 4) == 0) {
                rain = draw(seed, 30);
            }
            level = Math.min(99, level + 1 + rain);
            rain /= 2;
        }
        due(16, "drift(60) without persons", level, x.drift(60));
        due(16, "rain", rain, x.told(6));
        due(16, "nights", 60, x.told(4));
        due(16, "the seed", (int) seed[0], x.seed(5));
        x = yardOf(YARD);
        x.seed(2147483647);
        seed[0] = 2147483647L;
        UnsaidWell y = yardOf(YARD);
        for (int i = 0; i < 40; i++) {
            for (int k = 0; k < 3; k++) {
                int p = draw(seed, 2);
                y.pour(p, draw(seed, 4));
            }
            int chance = draw(seed, 4);
            if (chance == 0) {
                y.rain(draw(seed, 30));
            } else if (chance == 1) {
                y.say(draw(seed, 4));
            }
            y.night(1);
            due(16, "drift(1)", y.told(5), x.drift(1));
            same(16, "as by hand", picture(y), picture(x));
        }
        due(16, "the seed", (int) seed[0], x.seed(5));
        due(16, "drift(0)", OUTSIDE, x.drift(0));
        due(16, "drift(61)", OUTSIDE, x.drift(61));
        due(16, "what is refused draws nothing", 5, x.seed(5));
        due(16, "drift(61) without a yard", OUTSIDE, new UnsaidWell().drift(61));
        due(16, "drift(1) without a yard", NOT, new UnsaidWell().drift(1));
    }

    private static void undone() {
        UnsaidWell x = yardOf(YARD);
        due(17, "undo() of nothing", NOT, x.undo());
        String[] before = new String[8];
        int done = 0;
        before[done++] = picture(x);
        x.pour(0, 0);
        before[done++] = picture(x);
        x.say(0);
        before[done++] = picture(x);
        x.vow(0, true);
        before[done++] = picture(x);
        x.rain(20);
        before[done++] = picture(x);
        x.night(2);
        before[done++] = picture(x);
        x.queue(1, 1);
        before[done++] = picture(x);
        x.turn();
        before[done++] = picture(x);
        x.drift(3);
        x.pour(0, 0);
        x.write(0, true);
        int seed = x.seed(9);
        x.seed(seed);
        for (int i = 7; i >= 0; i--) {
            due(17, "undo()", i, x.undo());
            same(17, "as ahead of it", before[i], picture(x));
        }
        due(17, "undo() of no more", NOT, x.undo());
        due(17, "the seed stays", seed, x.seed(0));
        due(17, "the book stays", 1, x.told(14));
    }

    private static void undoneMany() {
        UnsaidWell x = yardOf(YARD);
        for (int i = 1; i <= 20; i++) {
            x.rain(i);
        }
        due(17, "16 at most", 16, x.told(15));
        x.undo();
        x.undo();
        due(17, "rain", 18, x.told(6));
        x.rain(50);
        due(17, "15 then", 15, x.told(15));
        for (int i = 14; i >= 0; i--) {
            due(17, "undo()", i, x.undo());
        }
        due(17, "the oldest are lost", 4, x.told(6));
        due(17, "undo() of no more", NOT, x.undo());
    }

    private static void states() {
        UnsaidWell x = yardOf(YARD);
        due(18, "as it is", 0, x.state(15, 0, 0));
        due(18, "as it is", 0, x.state(15, 0, 1));
        due(18, "not 2", 3, x.state(0, 4, 0));
        due(18, "not 2", 2, x.state(0, 4, 1));
        due(18, "1, not 2", 4, x.state(2, 4, 0));
        due(18, "1, not 2", 4, x.state(2, 4, 1));
        due(18, "none", 8, x.state(0, 15, 0));
        due(18, "2, not 1", NONE, x.state(4, 2, 0));
        due(18, "2, not 1", NONE, x.state(4, 2, 1));
        due(18, "0, not 0", NONE, x.state(1, 1, 0));
        x.pour(0, 2);
        due(18, "1 is unsaid: 3 holds", NONE, x.state(8, 0, 0));
        due(18, "it is unsaid already", 0, x.state(0, 4, 0));
        x.say(2);
        x.pour(1, 2);
        x.pour(0, 0);
        due(18, "what is wet takes less", 1, x.state(0, 1, 0));
        due(18, "what is wet takes less", 1, x.state(0, 4, 0));
        x.vow(0, true);
        due(18, "vowed", NONE, x.state(0, 1, 0));
        due(18, "by another", 3, x.state(0, 4, 0));
        due(18, "like ones", 1, yardOf("y1 1;p1;s0 2 1;s0 2 1;s0 3 1;f0 2;f1 2;").state(0, 4, 1));
        due(18, "the level is no matter", 20, yardOf("y0 0;p1;s0 20 1;").state(0, 1, 0));
        due(18, "state(16, 0, 0)", UNKNOWN, x.state(16, 0, 0));
        due(18, "state(0, 16, 0)", UNKNOWN, x.state(0, 16, 0));
        due(18, "state(-1, 0, 0)", UNKNOWN, x.state(-1, 0, 0));
        due(18, "state(0, -1, 9)", UNKNOWN, x.state(0, -1, 9));
        due(18, "state(0, 0, 2)", OUTSIDE, x.state(0, 0, 2));
        due(18, "state(0, 0, -1)", OUTSIDE, x.state(0, 0, -1));
        UnsaidWell ten = yardOf("y1 1;p1;" + "s0 1 1;".repeat(10));
        due(18, "ten sayings", 10, ten.state(0, 1023, 0));
        due(18, "ten sayings", 1023, ten.state(0, 1023, 1));
        due(18, "an 11th", UNKNOWN, ten.state(0, 1024, 1));
    }

    private static void bests() {
        UnsaidWell x = yardOf(YARD);
        due(19, "best(1, 0)", 990, x.best(1, 0));
        due(19, "best(1, 1)", 0, x.best(1, 1));
        due(19, "best(2, 0)", 1030, x.best(2, 0));
        due(19, "best(2, 1)", 8, x.best(2, 1));
        x.vow(3, true);
        due(19, "vowed", 1010, x.best(99, 0));
        due(19, "vowed", 2, x.best(99, 1));
        due(19, "best(3, 0)", 1010, yardOf("y1 1;p1;s0 3 40;s0 2 60;").best(3, 0));
        due(19, "best(3, 1)", 1, yardOf("y1 1;p1;s0 3 40;s0 2 60;").best(3, 1));
        due(19, "like ones", 1, yardOf("y1 1;p1;s0 9 40;s0 1 40;").best(9, 1));
        due(19, "nothing is better than worthless", 0, yardOf("y1 1;p1;s0 1 50;").best(9, 1));
        x = yardOf("y9 1;p2;s0 3 40;s0 3 40;");
        x.pour(0, 1);
        due(19, "what is wet takes less", 2, x.best(1, 1));
        x.pour(0, 1);
        due(19, "what is unsaid", 0, x.best(2, 1));
        due(19, "what is unsaid", 990, x.best(2, 0));
        due(19, "best(-1, 0)", OUTSIDE, x.best(-1, 0));
        due(19, "best(100, 0)", OUTSIDE, x.best(100, 0));
        due(19, "best(0, 2)", OUTSIDE, x.best(0, 2));
        due(19, "best(0, -1)", OUTSIDE, x.best(0, -1));
    }

    private static void alone() {
        UnsaidWell x = yardOf("y4 3;p4;p3;p1;s0 5 60;s0 20 40;");
        String before = picture(x);
        due(20, "behind a night", 1, x.alone(0, 0));
        due(20, "another's: 4, then 2 and 4", 2, x.alone(1, 0));
        due(20, "an arm of one for another's", NONE, x.alone(2, 0));
        due(20, "20 pails: 4, 7, 10, 13, 16, 19, 22", 6, x.alone(0, 1));
        same(20, "nothing changes", before, picture(x));
        due(20, "nothing can be undone", 0, x.told(15));
        x.rain(9);
        due(20, "by rain: 4, 16, 23", 2, x.alone(0, 1));
        x.vow(0, true);
        due(20, "vowed", NONE, x.alone(0, 0));
        x.vow(0, false);
        x.pour(0, 0);
        x.night(1);
        x.pour(0, 0);
        due(20, "it is unsaid", NONE, x.alone(0, 0));
        due(20, "a dry well", NONE, yardOf("y0 0;p9;s0 1 1;").alone(0, 0));
        due(20, "ahead of the first", 0, yardOf("y20 0;p1;s0 20 1;").alone(0, 0));
        UnsaidWell late = yardOf("y0 1;p9;p9;s0 20 1;");
        due(20, "a pail a night", 20, late.alone(0, 0));
        due(20, "a pail a night for another's", 40, late.alone(1, 0));
        due(20, "alone(2, 0)", UNKNOWN, late.alone(2, 0));
        due(20, "alone(-1, 0)", UNKNOWN, late.alone(-1, 0));
        due(20, "alone(0, 1)", UNKNOWN, late.alone(0, 1));
        due(20, "alone(0, -1)", UNKNOWN, late.alone(0, -1));
    }

    private static void wasUnsaid() {
        UnsaidWell x = yardOf("y9 1;p9;s0 5 1;s0 2 1;s0 2 1;s0 2 1;f0 1;f0 2;f0 3;");
        due(21, "0 and one of three", 3, x.wasUnsaid(0, 7, 0));
        due(21, "0 is in each", 1, x.wasUnsaid(0, 7, 1));
        due(21, "the frog", 1, x.wasUnsaid(0, 7, 2));
        due(21, "0 and two of three", 3, x.wasUnsaid(0, 9, 0));
        due(21, "all", 15, x.wasUnsaid(0, 11, 1));
        due(21, "one alone is not told apart", NONE, x.wasUnsaid(0, 11, 2));
        due(21, "none fits", 0, x.wasUnsaid(0, 8, 0));
        due(21, "none fits", NONE, x.wasUnsaid(0, 8, 1));
        due(21, "none fits", NONE, x.wasUnsaid(0, 8, 2));
        due(21, "just what holds", 1, x.wasUnsaid(5, 4, 0));
        due(21, "just what holds", 10, x.wasUnsaid(5, 4, 1));
        x.pour(0, 0);
        x.vow(1, true);
        due(21, "what is so now is no matter", 3, x.wasUnsaid(0, 7, 0));
        UnsaidWell y = yardOf("y9 1;p9;s0 1 1;s0 1 1;s0 1 1;s0 1 1;s0 1 1;f0 1;f0 2;f0 3;f0 4;");
        due(21, "two of four", 6, y.wasUnsaid(0, 3, 0));
        due(21, "halves", 1, y.wasUnsaid(0, 3, 2));
        UnsaidWell z = yardOf("y9 1;p9;s0 1 1;s0 4 1;s0 2 1;s0 2 1;s0 4 1;f0 1;f0 2;f0 3;f0 4;");
        due(21, "4, 4 or 2 and 2", 3, z.wasUnsaid(0, 5, 0));
        due(21, "the least of like frogs", 1, z.wasUnsaid(0, 5, 2));
        due(21, "4 and 2, 2; 4 and 4", 3, z.wasUnsaid(0, 9, 0));
        UnsaidWell all = yardOf("y1 1;p1;" + "s0 20 1;".repeat(10));
        due(21, "200", 1, all.wasUnsaid(0, 200, 0));
        due(21, "200", 1023, all.wasUnsaid(0, 200, 1));
        due(21, "wasUnsaid(16, 0, 0)", UNKNOWN, x.wasUnsaid(16, 0, 0));
        due(21, "wasUnsaid(-1, 0, 0)", UNKNOWN, x.wasUnsaid(-1, 0, 0));
        due(21, "wasUnsaid(16, 201, 0)", UNKNOWN, x.wasUnsaid(16, 201, 0));
        due(21, "wasUnsaid(0, 201, 0)", OUTSIDE, x.wasUnsaid(0, 201, 0));
        due(21, "wasUnsaid(0, -1, 0)", OUTSIDE, x.wasUnsaid(0, -1, 0));
        due(21, "wasUnsaid(0, 0, 3)", OUTSIDE, x.wasUnsaid(0, 0, 3));
        due(21, "wasUnsaid(0, 0, -1)", OUTSIDE, x.wasUnsaid(0, 0, -1));
    }

    private static void droughts() {
        UnsaidWell x = yardOf("y0 1;");
        due(22, "drought(0)", 0, x.drought(0));
        due(22, "drought(99)", 99, x.drought(99));
        x.rain(50);
        due(22, "rain is no matter", 99, x.drought(99));
        due(22, "drought(100)", OUTSIDE, x.drought(100));
        due(22, "drought(-1)", OUTSIDE, x.drought(-1));
        x = yardOf("y7 0;");
        due(22, "drought(7)", 0, x.drought(7));
        due(22, "without a spring", NONE, x.drought(8));
        due(22, "drought(99)", 5, yardOf("y0 20;").drought(99));
        due(22, "drought(100) without a yard", OUTSIDE, new UnsaidWell().drought(100));
        due(22, "drought(0) without a yard", NOT, new UnsaidWell().drought(0));
    }

    private static void rainy() {
        UnsaidWell x = new UnsaidWell();
        due(23, "rainy(0, 0)", 1000000000, x.rainy(0, 0));
        due(23, "rainy(1, 0)", 0, x.rainy(1, 0));
        due(23, "rainy(60, 100)", 1000000000, x.rainy(60, 100));
        due(23, "rainy(2, 99)", 980100000, x.rainy(2, 99));
        long cut = 1000000000L;
        for (int i = 0; i < 7; i++) {
            cut = cut * 33 / 100;
        }
        due(23, "rainy(7, 33)", (int) cut, x.rainy(7, 33));
        due(23, "rainy(6, 1)", 0, x.rainy(6, 1));
        due(23, "rainy(4, 1)", 10, x.rainy(4, 1));
        due(23, "rainy(61, 1)", OUTSIDE, x.rainy(61, 1));
        due(23, "rainy(-1, 1)", OUTSIDE, x.rainy(-1, 1));
        due(23, "rainy(1, 101)", OUTSIDE, x.rainy(1, 101));
        due(23, "rainy(1, -1)", OUTSIDE, x.rainy(1, -1));
    }

    private static void book() {
        UnsaidWell x = yardOf(YARD);
        due(26, "judge() of no entry", NONE, x.judge());
        due(24, "write(0, true)", 1, x.write(0, true));
        due(24, "write(3, true)", 2, x.write(3, true));
        due(26, "judge()", NONE, x.judge());
        due(24, "write(1, false)", 3, x.write(1, false));
        due(26, "judge()", 2, x.judge());
        x.pour(1, 1);
        due(26, "judge(): 3 fell with 1", 1, x.judge());
        due(24, "nothing of it is undone", 1, x.told(15));
        x.undo();
        due(24, "the book stays", 3, x.told(14));
        for (int i = 4; i <= 15; i++) {
            due(24, "write(2, true)", i, x.write(2, true));
        }
        due(24, "a 16th", FULL, x.write(2, true));
        due(24, "write(4, true)", UNKNOWN, x.write(4, true));
        due(24, "write(-1, true)", UNKNOWN, x.write(-1, true));
        due(25, "tear()", 15, x.tear());
        due(25, "tear() again", 0, x.tear());
        due(26, "judge()", NONE, x.judge());
        due(24, "write(0, false)", 1, x.write(0, false));
        due(26, "judge()", 0, x.judge());
    }

    private static void seeds() {
        UnsaidWell x = new UnsaidWell();
        due(27, "seed(2147483647)", 0, x.seed(2147483647));
        due(27, "seed(-1)", OUTSIDE, x.seed(-1));
        due(27, "seed(-2147483648)", OUTSIDE, x.seed(-2147483648));
        due(27, "seed(0)", 2147483647, x.seed(0));
        due(27, "seed(1)", 0, x.seed(1));
    }

    private static void images() {
        UnsaidWell x = yardOf(YARD);
        x.seed(5);
        x.pour(0, 0);
        x.queue(1, 1);
        x.rain(8);
        String kept = picture(x);
        due(28, "keep(0)", 1, x.keep(0));
        due(28, "nothing can be undone", 0, x.told(15));
        due(28, "undo()", NOT, x.undo());
        same(28, "nothing else changes", kept, picture(x));
        x.drift(9);
        x.write(0, true);
        String later = picture(x);
        int seed = x.seed(3);
        x.seed(seed);
        due(28, "keep(1)", 1, x.keep(1));
        x.vow(0, true);
        due(29, "goBack(0)", 1, x.goBack(0));
        same(29, "as it was kept", kept, picture(x));
        due(29, "nothing can be undone", NOT, x.undo());
        due(29, "the book stays", 1, x.told(14));
        due(29, "the seed, too", 5, x.seed(6));
        due(29, "goBack(1)", 1, x.goBack(1));
        same(29, "as it was kept", later, picture(x));
        due(29, "the seed, too", seed, x.seed(6));
        x.night(1);
        due(28, "keep(1) anew", 1, x.keep(1));
        x.goBack(0);
        due(29, "goBack(0) again", 1, x.goBack(0));
        same(29, "as it was kept", kept, picture(x));
        x.goBack(1);
        due(29, "the newer image", 10, x.told(4));
        due(28, "keep(2)", UNKNOWN, x.keep(2));
        due(28, "keep(-1)", UNKNOWN, x.keep(-1));
        due(29, "goBack(2)", UNKNOWN, x.goBack(2));
        due(29, "goBack(-1)", UNKNOWN, x.goBack(-1));
        x = yardOf(YARD);
        x.rain(1);
        due(29, "goBack(0), not kept", NOT, x.goBack(0));
        due(29, "what is refused leaves what can be undone", 1, x.told(15));
        x.keep(1);
        due(29, "goBack(0), not kept", NOT, x.goBack(0));
        x = new UnsaidWell();
        due(28, "keep(0) without a yard", 1, x.keep(0));
        x.seed(4);
        due(29, "goBack(0) without a yard", 1, x.goBack(0));
        due(29, "the seed", 0, x.seed(4));
    }

    private static void refusalsChangeNothing() {
        UnsaidWell x = yardOf(YARD);
        x.rain(4);
        x.queue(1, 1);
        x.vow(3, true);
        String before = picture(x);
        x.pour(1, 3);
        x.pour(2, 0);
        x.say(9);
        x.vow(9, true);
        x.night(0);
        x.rain(-1);
        x.queue(5, 5);
        x.drift(0);
        x.keep(5);
        x.goBack(0);
        x.state(1, 2, 0);
        x.best(9, 0);
        x.alone(0, 0);
        x.wasUnsaid(0, 3, 2);
        x.drought(50);
        same(3, "what is refused or tried changes nothing", before, picture(x));
        due(17, "and cannot be undone", 3, x.told(15));
    }
}
