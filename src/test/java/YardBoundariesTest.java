import java.io.IOException;

/** The boundary cases that the document names for the text and the yard: promises 1 to 8. */
public final class YardBoundariesTest {
    private static final int NONE = Asked.NONE, UNKNOWN = Asked.UNKNOWN, OUTSIDE = Asked.OUTSIDE, NOT = Asked.NOT,
            FULL = Asked.FULL, LEAST = Asked.LEAST, MOST = Asked.MOST;
    private static final String FOUR = "y0 0;p1;s0 1 1;s0 1 1;s0 1 1;s0 1 1;";
    private static final int END = FOUR.length();
    private final Asked a = new Asked();

    private YardBoundariesTest() throws IOException {
    }

    public static void main(String[] args) throws IOException {
        new YardBoundariesTest().all();
    }

    private void all() {
        newObject();
        lettersOutside();
        textFull();
        wellClauses();
        personClauses();
        sayingClauses();
        followClauses();
        figures();
        words();
        blanks();
        numbersSideBySide();
        firstFault();
        faultsAtTheEnd();
        leastFault();
        cannotStand();
        numbersOutOfBounds();
        whatThereIsNot();
        tooMany();
        notBelowOrAgain();
        emptyTexts();
        textIsEmptyThen();
        yardAnew();
        bookAndImagesGone();
        seedStays();
        faultyYards();
        faultOfTheLatest();
        toldWhat();
        toldLeast();
        toldMost();
        sayingUnknown();
        sayingWhat();
        depthAndRoots();
        falls();
        personUnknown();
        personWhat();
        leans();
        shares();
        queuedNone();
        queuedWhat();
        a.end(1, 8);
    }

    private static String spread(String text, int length) {
        return text + " ".repeat(length - text.length());
    }

    // ---- promise 1

    private void newObject() {
        a.sentence(1, "`UnsaidWell()`: No YARD.");
        UnsaidWell x = new UnsaidWell();
        for (int what = 0; what <= 16; what++) {
            a.due(what == 11 ? 1000 : what == 12 ? NONE : 0, "told(" + what + ")", x.told(what));
        }
        a.due(NONE, "fault()", x.fault());
        a.due(UNKNOWN, "saying(0, 0)", x.saying(0, 0));
        a.due(UNKNOWN, "person(0, 0)", x.person(0, 0));
        a.due(NONE, "queued(0, 0)", x.queued(0, 0));
        a.due(UNKNOWN, "pour(0, 0)", x.pour(0, 0));
        a.due(UNKNOWN, "say(0)", x.say(0));
        a.due(UNKNOWN, "vow(0, true)", x.vow(0, true));
        a.due(NOT, "night(1)", x.night(1));
        a.due(NOT, "rain(0)", x.rain(0));
        a.due(UNKNOWN, "queue(0, 0)", x.queue(0, 0));
        a.due(NOT, "turn()", x.turn());
        a.due(NOT, "drift(1)", x.drift(1));
        a.due(NOT, "undo()", x.undo());
        a.due(0, "state(0, 0, 0)", x.state(0, 0, 0));
        a.due(0, "state(0, 0, 1)", x.state(0, 0, 1));
        a.due(UNKNOWN, "state(1, 0, 0)", x.state(1, 0, 0));
        a.due(1000, "best(99, 0)", x.best(99, 0));
        a.due(0, "best(99, 1)", x.best(99, 1));
        a.due(UNKNOWN, "alone(0, 0)", x.alone(0, 0));
        a.due(1, "wasUnsaid(0, 0, 0)", x.wasUnsaid(0, 0, 0));
        a.due(NONE, "wasUnsaid(0, 1, 1)", x.wasUnsaid(0, 1, 1));
        a.due(NOT, "drought(0)", x.drought(0));
        a.due(UNKNOWN, "write(0, true)", x.write(0, true));
        a.due(0, "tear()", x.tear());
        a.due(NONE, "judge()", x.judge());
        a.due(0, "seed(0)", x.seed(0));
        a.due(NOT, "goBack(0)", x.goBack(0));
        a.due(NOT, "goBack(1)", x.goBack(1));
    }

    // ---- promise 2

    private void lettersOutside() {
        a.sentence(2, "One letter (a number 0 .. 255) comes behind THE TEXT: how many it has. OUTSIDE");
        UnsaidWell x = new UnsaidWell();
        a.due(1, "feed(0)", x.feed(0));
        a.due(2, "feed(255)", x.feed(255));
        a.due(2, "told(3)", x.told(3));
        for (int letter : new int[] {-1, 256, LEAST, MOST}) {
            a.refused(OUTSIDE, "feed(" + letter + ")", Asked::busy, y -> y.feed(letter));
        }
    }

    private void textFull() {
        a.sentence(2, "OUTSIDE, FULL (240)");
        String text = spread("y12 3;p4;s0 5 60;", 240);
        UnsaidWell x = new UnsaidWell();
        for (int i = 0; i < 240; i++) {
            a.due(i + 1, "feed() as number " + (i + 1), x.feed(text.charAt(i)));
        }
        a.due(FULL, "feed('x') as the 241st", x.feed('x'));
        a.due(FULL, "feed(0) as the 241st", x.feed(0));
        a.due(OUTSIDE, "feed(256) as the 241st", x.feed(256));
        a.due(OUTSIDE, "feed(-1) as the 241st", x.feed(-1));
        a.due(240, "told(3)", x.told(3));
        a.due(1, "yard(): the 241st did not come", x.yard());
        a.due(NONE, "fault()", x.fault());
        a.due(1, "feed() as the first again", x.feed('y'));
    }

    // ---- promise 3: the text

    private void wellClauses() {
        a.sentence(3, "'y' L N ';' (LEVEL L pails, 0 .. 99; SPRING N pails a night, 0 .. 20; first, once)");
        UnsaidWell x = Asked.yardOf("y0 0;");
        a.due(0, "level", x.told(5));
        a.due(0, "spring", x.told(16));
        x = Asked.yardOf("y99 20;");
        a.due(99, "level", x.told(5));
        a.due(20, "spring", x.told(16));
        a.fault(2, 1, "y100 20;");
        a.fault(2, 4, "y99 21;");
        a.fault(1, 0, "p1;y9 2;");
        a.fault(3, 6, "y99 2;y99 2;");
    }

    private void personClauses() {
        a.sentence(3, "'p' A ';' (5 PERSONS at most: ARM A pails, 1 .. 9)");
        UnsaidWell x = Asked.yardOf("y0 0;p1;p9;p1;p1;p9;");
        a.due(5, "persons", x.told(0));
        a.due(1, "arm", x.person(0, 0));
        a.due(9, "arm", x.person(4, 0));
        a.fault(2, 6, "y0 0;p0;");
        a.fault(2, 6, "y0 0;p10;");
        a.fault(3, 20, "y0 0;p1;p9;p1;p1;p9;p1;");
    }

    private void sayingClauses() {
        a.sentence(3, "'s' P B W ';' (10 SAYINGS at most: of PERSON P told ahead; weighs B pails, 1 .. 20; worth W less 50, W 0 .. 99)");
        UnsaidWell x = Asked.yardOf("y0 0;p1;p2;s0 1 0;s1 20 99;");
        a.due(0, "the person", x.saying(0, 0));
        a.due(1, "the last person", x.saying(1, 0));
        a.due(1, "weighs", x.saying(0, 1));
        a.due(20, "weighs", x.saying(1, 1));
        a.due(950, "worth (and 1000)", x.saying(0, 2));
        a.due(1049, "worth (and 1000)", x.saying(1, 2));
        a.taken(10, "y0 0;p1;" + "s0 1 1;".repeat(10));
        a.taken(2, "y0 0;p1;s0 1 1;p1;s1 1 1;");
        a.fault(3, 78, "y0 0;p1;" + "s0 1 1;".repeat(11));
        a.fault(2, 9, "y0 0;p1;s1 1 1;p1;");
        a.fault(2, 11, "y0 0;p1;s0 0 1;");
        a.fault(2, 11, "y0 0;p1;s0 21 1;");
        a.fault(2, 13, "y0 0;p1;s0 1 100;");
    }

    private void followClauses() {
        a.sentence(3, "'f' A B ';' (15 at most: SAYING B FOLLOWS from SAYING A, both told ahead, A below B, each two once)");
        String ten = "y0 0;p1;" + "s0 1 1;".repeat(10);
        StringBuilder links = new StringBuilder();
        for (int b = 1; b <= 5; b++) {
            for (int from = 0; from < b; from++) {
                links.append('f').append(from).append(' ').append(b).append(';');
            }
        }
        UnsaidWell x = Asked.yardOf(ten + links);
        a.due(15, "follow", x.told(2));
        a.due(31, "all ahead of 5", x.saying(5, 7));
        a.fault(3, 78 + 75, ten + links + "f8 9;");
        a.due(256, "the last two of ten", Asked.yardOf(ten + "f8 9;").saying(9, 7));
        a.taken(3, "y0 0;p1;s0 1 1;s0 1 1;f0 1;s0 1 1;f0 2;");
        a.fault(2, 25, "y0 0;p1;s0 1 1;s0 1 1;f0 2;s0 1 1;");
        a.fault(4, END + 3, FOUR + "f1 1;");
        a.fault(4, END + 8, FOUR + "f0 1;f0 1;");
        a.taken(4, FOUR + "f0 1;f0 2;f1 2;");
    }

    private void figures() {
        a.sentence(3, "NUMBERS have one to three figures");
        a.taken(0, "y0 0;");
        a.taken(0, "y00 00;");
        a.taken(0, "y099 020;");
        a.taken(1, "y000 000;p009;s000 020 099;");
        a.fault(2, 1, "y0000 0;");
        a.fault(2, 3, "y0 0000;");
        a.fault(2, 6, "y0 0;p0001;");
    }

    private void words() {
        a.sentence(3, "a word is one letter");
        a.fault(1, 1, "yy1 1;");
        a.fault(1, 6, "y1 1;pp1;");
        a.fault(1, 1, "yard1 1;");
    }

    private void blanks() {
        a.sentence(3, "blanks (32) may stand anywhere but within NUMBERS");
        UnsaidWell x = Asked.yardOf("  y  12  3  ;  p  4  ;  s  0  5  60  ;  s 0 1 1 ;  f  0  1  ;  ");
        a.due(12, "level", x.told(5));
        a.due(3, "spring", x.told(16));
        a.due(4, "arm", x.person(0, 0));
        a.due(5, "weighs", x.saying(0, 1));
        a.due(1, "follows", x.saying(1, 7));
        a.fault(1, 5, "y1 2 3;");
        a.fault(1, 8, "y1 1;p1 1;");
        for (int letter : new int[] {0, 9, 10, 13, 31, 33, 160, 255}) {
            a.fault(1, 1, "y" + (char) letter + "1 1;");
        }
    }

    private void numbersSideBySide() {
        a.sentence(3, "two NUMBERS side by side need one");
        a.fault(1, 3, "y12;");
        a.fault(2, 1, "y123;");
        a.fault(2, 1, "y1234;");
        a.fault(1, 11, "y1 1;p1;s00;");
        a.fault(2, 9, "y1 1;p1;s010;");
        a.taken(1, "y1 1;p1;s0 10 1;");
    }

    private void firstFault() {
        a.sentence(3, "at the first letter that has one");
        a.fault(2, 1, "y100?");
        a.fault(2, 1, "y100");
        a.fault(2, 1, "y1000 1;?");
        a.fault(2, 3, "y1 21 p;");
        a.fault(1, 4, "y1 1y1 1;");
        a.fault(3, 5, "y1 1;y?");
        a.fault(3, 20, "y1 1;p1;p1;p1;p1;p1;p0;");
        a.fault(4, END + 3, FOUR + "f1 0?");
        a.fault(4, END + 3, FOUR + "f1 0");
        a.fault(2, END + 1, FOUR + "f9 0;");
    }

    private void faultsAtTheEnd() {
        a.sentence(3, "(the end at the text's length)");
        a.fault(1, 1, "y");
        a.fault(1, 3, "y  ");
        a.fault(1, 2, "y1");
        a.fault(1, 3, "y1 ");
        a.fault(1, 4, "y1 1");
        a.fault(1, 6, "y1 1  ");
        a.fault(1, 6, "y1 1;p");
        a.fault(1, 7, "y1 1;p1");
        a.fault(1, 9, "y1 1;p1;s");
        a.fault(1, 12, "y1 1;p1;s0 1");
        a.fault(1, 14, "y1 1;p1;s0 1 1");
        a.fault(1, END + 1, FOUR + "f");
        a.fault(1, END + 2, FOUR + "f0");
        a.fault(1, END + 4, FOUR + "f0 1");
        a.fault(1, 240, spread("y1 1", 240));
        a.fault(1, 240, spread("y1 1;", 239) + "p");
        a.fault(1, 239, spread("y1 1;", 239) + ";");
    }

    private void leastFault() {
        a.sentence(3, "of these the least");
        // Four figures (2), and A not below B (4), at the same letter.
        a.fault(2, END + 3, FOUR + "f1 0000;");
        a.fault(2, END + 8, FOUR + "f0 1;f0 0001;");
        // It cannot stand there (1), and it is 'y' again, a sixth 'p' (3).
        a.fault(1, 4, "y1 1y");
        a.fault(1, 20, "y1 1;p1;p1;p1;p1;p1 p;");
    }

    private void cannotStand() {
        a.sentence(3, "1 it cannot stand there (a letter that is no word, another word first than 'y')");
        for (String text : new String[] {"x", ";", "7", "Y1 1;", "p1;", "s0 1 1;", "f0 1;", "\t", "-1", "" + (char) 255}) {
            a.fault(1, 0, text);
        }
        a.fault(1, 2, "  p1;");
        a.fault(1, 5, "y1 1;;");
        a.fault(1, 5, "y1 1;1;");
        a.fault(1, 5, "y1 1;P1;");
        a.fault(1, 6, "y1 1;p;");
        a.fault(1, 6, "y1 1;p-1;");
        a.fault(1, 2, "y1;");
        a.fault(1, 12, "y1 1;p1;s0 1;");
        a.fault(1, 15, "y1 1;p1;s0 1 1 1;");
        a.fault(1, END + 2, FOUR + "f0;");
        a.fault(1, END + 5, FOUR + "f0 1 2;");
        a.fault(1, 2, "y1.1;");
        // The figures' neighbours.
        a.fault(1, 1, "y/ 1;");
        a.fault(1, 1, "y: 1;");
    }

    private void numbersOutOfBounds() {
        a.sentence(4, "2 a NUMBER of four figures or more, or out of its bounds");
        a.fault(2, 1, "y1000 1;");
        a.fault(2, 1, "y0001 1;");
        a.fault(2, 1, "y12345 1;");
        a.fault(2, 1, "y4294967297 1;");
        a.fault(2, 1, "y" + "1".repeat(239));
        a.fault(2, 1, "y" + "0".repeat(239));
        a.fault(2, 3, "y  100 1;");
        a.fault(2, 1, "y999 1;");
        a.fault(2, 4, "y99 21;");
        a.fault(2, 6, "y0 0;p0;");
        a.fault(2, 6, "y0 0;p10;");
        a.fault(2, 11, "y0 0;p1;s0 0 0;");
        a.fault(2, 11, "y0 0;p1;s0 21 0;");
        a.fault(2, 14, "y0 0;p1;s0 20 100;");
    }

    private void whatThereIsNot() {
        a.sentence(4, "a PERSON, a SAYING that there is not (at its first)");
        a.fault(2, 6, "y0 0;s0 1 1;");
        a.fault(2, 9, "y0 0;p1;s1 1 1;");
        a.fault(2, 10, "y0 0;p1;s 10 1 1;");
        a.fault(2, 6, "y0 0;f0 1;");
        a.fault(2, 18, "y0 0;p1;s0 1 1;f0 1;");
        a.fault(2, 16, "y0 0;p1;s0 1 1;f1 0;");
        a.fault(2, END + 1, FOUR + "f4 0;");
        a.fault(2, END + 3, FOUR + "f0 4;");
        a.fault(2, END + 4, FOUR + "f0  010;");
    }

    private void tooMany() {
        a.sentence(4, "3 'y' again, a sixth 'p', an 11th 's', a 16th 'f' (at it)");
        a.fault(3, 5, "y0 0;y0 0;");
        a.fault(3, 7, "y0 0;  y");
        a.fault(3, 23, "y0 0;p1;p1;p1;p1;p1;   p1;");
        a.fault(3, 20, "y0 0;p1;p1;p1;p1;p1;p");
        a.fault(3, 79, "y0 0;p1;" + "s0 1 1;".repeat(10) + " s0 1 1;");
        a.fault(3, 78, "y0 0;p1;" + "s0 1 1;".repeat(10) + "s9 0 100;");
        String links = "f0 1;f0 2;f1 2;f0 3;f1 3;f2 3;f0 4;f1 4;f2 4;f3 4;f0 5;f1 5;f2 5;f3 5;f4 5;";
        a.taken(6, "y0 0;p1;" + "s0 1 1;".repeat(6) + links);
        a.fault(3, 50 + 75, "y0 0;p1;" + "s0 1 1;".repeat(6) + links + "f");
        a.fault(3, 50 + 75, "y0 0;p1;" + "s0 1 1;".repeat(6) + links + "f0 1;");
    }

    private void notBelowOrAgain() {
        a.sentence(4, "4 A not below B, or told so already (at the B)");
        a.fault(4, END + 3, FOUR + "f0 0;");
        a.fault(4, END + 3, FOUR + "f3 2;");
        a.fault(4, END + 5, FOUR + "f3   3;");
        a.fault(4, END + 8, FOUR + "f0 1;f0 1;");
        a.fault(4, END + 10, FOUR + "f0 1; f00 001;");
        a.fault(4, END + 8, FOUR + "f0 1;f1 0;");
        a.taken(4, FOUR + "f2 3;f0 1;f1 2;");
    }

    private void emptyTexts() {
        a.sentence(3, "An empty text (or one of blanks alone): no YARD.");
        for (String text : new String[] {"", " ", " ".repeat(240)}) {
            UnsaidWell x = Asked.busy();
            x.yard();
            Asked.feed(x, text);
            a.due(0, "yard()", x.yard());
            a.due(NONE, "fault()", x.fault());
            a.same(Asked.picture(new UnsaidWell()), "what is told", Asked.picture(x));
            a.due(0, "told(14)", x.told(14));
            a.due(0, "told(15)", x.told(15));
            a.due(NOT, "night(1)", x.night(1));
            a.due(NOT, "rain(1)", x.rain(1));
            a.due(NOT, "drift(1)", x.drift(1));
            a.due(NOT, "drought(1)", x.drought(1));
            a.due(UNKNOWN, "pour(0, 0)", x.pour(0, 0));
            a.due(UNKNOWN, "person(0, 0)", x.person(0, 0));
            a.due(NOT, "goBack(0)", x.goBack(0));
            a.due(78, "seed(1)", x.seed(1));
        }
        // A yard without persons is one all the same.
        a.due(3, "night(3)", Asked.yardOf("y0 1;").night(3));
    }

    private void textIsEmptyThen() {
        a.sentence(3, "THE TEXT (it is empty then, with a FAULT, too) becomes THE YARD");
        UnsaidWell x = new UnsaidWell();
        Asked.feed(x, Asked.YARD);
        a.due(Asked.YARD.length(), "told(3)", x.told(3));
        a.due(4, "yard()", x.yard());
        a.due(0, "told(3)", x.told(3));
        Asked.feed(x, "y1 1;?");
        a.due(-11, "yard()", x.yard());
        a.due(0, "told(3)", x.told(3));
        Asked.feed(x, "y7 1;");
        a.due(0, "yard() of what came behind the fault", x.yard());
        a.due(7, "told(5)", x.told(5));
        // Letters that an earlier text had do not end a shorter one.
        String whole = "y7 1;p1;s0 1 1;s0 1 1;f0 1;";
        for (int length = 1; length < whole.length(); length++) {
            String part = whole.substring(0, length);
            Asked.feed(x, whole);
            x.yard();
            Asked.feed(x, part);
            boolean isWhole = part.endsWith(";");
            a.due(isWhole ? part.length() - part.replace("s", "").length() : -11, "yard() of '" + part + "'", x.yard());
            a.due(isWhole ? NONE : length, "fault() of '" + part + "'", x.fault());
            x = new UnsaidWell();
        }
    }

    private void yardAnew() {
        a.sentence(3, "(NIGHT 0, LEVEL as told, all SAID, not WET, none VOWED, no RAIN, nobody in THE QUEUE");
        UnsaidWell x = Asked.busy();
        x.pour(1, 1);
        x.yard();
        Asked.feed(x, Asked.YARD);
        a.due(4, "yard(): how many SAYINGS", x.yard());
        int[] due = {2, 4, 3, 0, 0, 12, 0, 15, 0, 0, 0, 990, 0, 0, 0, 0, 3};
        for (int what = 0; what < due.length; what++) {
            a.due(due[what], "told(" + what + ")", x.told(what));
        }
        for (int s = 0; s < 4; s++) {
            a.due(0, "saying(" + s + ", 3)", x.saying(s, 3));
        }
        a.due(NONE, "queued(0, 0)", x.queued(0, 0));
        // A smaller yard: what the greater one had is not there.
        Asked.feed(x, "y1 1;p1;s0 1 1;");
        a.due(1, "yard(): how many SAYINGS", x.yard());
        a.due(UNKNOWN, "saying(1, 0)", x.saying(1, 0));
        a.due(UNKNOWN, "person(1, 0)", x.person(1, 0));
        a.due(0, "told(2)", x.told(2));
        Asked.feed(x, "y1 1;p1;s0 1 1;s0 1 1;s0 1 1;");
        a.due(3, "yard(): how many SAYINGS", x.yard());
        a.due(0, "saying(2, 7): from nothing as in the yard ahead", x.saying(2, 7));
    }

    private void bookAndImagesGone() {
        a.sentence(3, "no BOOK; IMAGES, what could be undone are gone");
        UnsaidWell x = Asked.yardOf(Asked.YARD);
        x.keep(0);
        x.keep(1);
        x.rain(3);
        x.write(0, false);
        Asked.feed(x, Asked.YARD);
        x.yard();
        a.due(0, "told(14)", x.told(14));
        a.due(NONE, "judge()", x.judge());
        a.due(0, "told(15)", x.told(15));
        a.due(NOT, "undo()", x.undo());
        a.due(NOT, "goBack(0)", x.goBack(0));
        a.due(NOT, "goBack(1)", x.goBack(1));
        a.due(0, "tear()", x.tear());
    }

    private void seedStays() {
        a.sentence(3, "THE SEED stays)");
        UnsaidWell x = new UnsaidWell();
        x.seed(MOST);
        Asked.feed(x, Asked.YARD);
        x.yard();
        a.due(MOST, "seed(5)", x.seed(5));
        x.yard();
        a.due(5, "seed(6)", x.seed(6));
        Asked.feed(x, "?");
        x.yard();
        a.due(6, "seed(7)", x.seed(7));
    }

    private void faultyYards() {
        a.sentence(3, "-10 less the number of its FAULT (all else is as it was)");
        String[] texts = {"y5 5;p1;?", "y5 5;p0;", "y5 5;y", "y5 5;p1;s0 1 1;f0 0;"};
        for (int kind = 1; kind <= 4; kind++) {
            UnsaidWell x = Asked.busy();
            UnsaidWell y = Asked.busy();
            String before = Asked.picture(x);
            x.yard();
            y.yard();
            a.same(before, "all behind a first fault", Asked.picture(x));
            Asked.feed(x, texts[kind - 1]);
            a.due(-10 - kind, "yard() of '" + texts[kind - 1] + "'", x.yard());
            a.same(before, "all behind a second fault", Asked.picture(x));
            a.due(0, "told(3)", x.told(3));
            // Both objects come to the same latest fault, so that all the rest can be compared.
            x.feed('?');
            y.feed('?');
            x.yard();
            y.yard();
            a.same(Asked.allToCome(y), "all else", Asked.allToCome(x));
        }
        UnsaidWell x = new UnsaidWell();
        Asked.feed(x, "y5 5;?");
        x.yard();
        a.due(NOT, "night(1): there was no YARD, and is none", x.night(1));
    }

    // ---- promise 4

    private void faultOfTheLatest() {
        a.sentence(4, "The letter of the FAULT of the latest yard(); NONE.");
        UnsaidWell x = new UnsaidWell();
        a.due(NONE, "fault() ahead of all", x.fault());
        Asked.feed(x, "y1 1;p");
        a.due(NONE, "fault() ahead of yard()", x.fault());
        x.yard();
        a.due(6, "fault()", x.fault());
        a.due(6, "fault() again", x.fault());
        x.feed('p');
        a.due(6, "fault() behind feed()", x.fault());
        x.yard();
        a.due(0, "fault() at the first letter", x.fault());
        Asked.feed(x, "y1 1;");
        x.yard();
        a.due(NONE, "fault() of a good text", x.fault());
        Asked.feed(x, "?");
        x.yard();
        x.yard();
        a.due(NONE, "fault() of an empty text", x.fault());
    }

    // ---- promise 5

    private void toldWhat() {
        a.sentence(5, "15 how many can be undone, 16 SPRING. OUTSIDE.");
        for (int what : new int[] {-1, 17, 18, LEAST, MOST}) {
            a.refused(OUTSIDE, "told(" + what + ")", Asked::busy, x -> x.told(what));
            a.due(OUTSIDE, "told(" + what + ") of a new object", new UnsaidWell().told(what));
        }
        a.due(2, "told(0)", Asked.busy().told(0));
        a.due(3, "told(16)", Asked.busy().told(16));
    }

    private void toldLeast() {
        a.sentence(5, "0 PERSONS, 1 SAYINGS, 2 how many FOLLOW (as told by 'f'), 3 letters of THE TEXT, 4 NIGHTS, 5 LEVEL, 6 RAIN");
        UnsaidWell x = Asked.yardOf("y0 0;");
        for (int what = 0; what <= 16; what++) {
            a.due(what == 11 ? 1000 : what == 12 ? NONE : 0, "told(" + what + ") of the least yard", x.told(what));
        }
        // HEAVIEST: NONE, as nothing HOLDS.
        x = Asked.yardOf("y9 0;p9;s0 1 0;s0 1 0;f0 1;");
        a.due(0, "told(12)", x.told(12));
        x.pour(0, 0);
        a.due(NONE, "told(12), nothing holds", x.told(12));
        a.due(1000, "told(11), nothing holds", x.told(11));
    }

    private void toldMost() {
        a.sentence(5, "7 what HOLDS, 8 what is UNSAID, 9 VOWED, 10 COBBLES, 11 WORTH (and 1000), 12 HEAVIEST");
        UnsaidWell x = Asked.yardOf("y99 20;p9;p9;p9;p9;p9;" + "s0 9 99;".repeat(10));
        a.due(1023, "told(7)", x.told(7));
        a.due(1490, "told(11)", x.told(11));
        a.due(0, "told(12) of like ones", x.told(12));
        for (int s = 0; s < 10; s++) {
            a.due(9, "pour(0, " + s + ")", x.pour(0, s));
            x.vow(s, true);
        }
        a.due(0, "told(7)", x.told(7));
        a.due(1023, "told(8)", x.told(8));
        a.due(1023, "told(9)", x.told(9));
        a.due(90, "told(10)", x.told(10));
        a.due(9, "told(5)", x.told(5));
        a.due(500, "told(11) of ten at 0", Asked.yardOf("y0 0;p1;" + "s0 1 0;".repeat(10)).told(11));
        // The last is heaviest, and of like ones the least is.
        a.due(2, "told(12)", Asked.yardOf("y0 0;p1;" + "s0 1 0;".repeat(4) + "f2 3;").told(12));
        a.due(0, "told(12)", Asked.yardOf("y0 0;p1;" + "s0 1 0;".repeat(4) + "f0 1;f2 3;").told(12));
    }

    // ---- promise 6

    private void sayingUnknown() {
        a.sentence(6, "7 from which it FOLLOWS straight (a SET). UNKNOWN, OUTSIDE.");
        for (int s : new int[] {-1, 4, 10, LEAST, MOST}) {
            a.refused(UNKNOWN, "saying(" + s + ", 0)", Asked::busy, x -> x.saying(s, 0));
            a.due(UNKNOWN, "saying(" + s + ", 8): UNKNOWN comes first", Asked.busy().saying(s, 8));
        }
        UnsaidWell ten = Asked.yardOf(Asked.CHAIN);
        a.due(0, "saying(9, 0)", ten.saying(9, 0));
        a.due(UNKNOWN, "saying(10, 0)", ten.saying(10, 0));
        a.due(UNKNOWN, "saying(32, 0)", ten.saying(32, 0));
    }

    private void sayingWhat() {
        a.sentence(6, "Of a SAYING: what = 0 the PERSON");
        for (int what : new int[] {-1, 8, LEAST, MOST}) {
            a.refused(OUTSIDE, "saying(0, " + what + ")", Asked::busy, x -> x.saying(0, what));
        }
        a.due(1, "saying(3, 0)", Asked.busy().saying(3, 0));
        a.due(4, "saying(3, 7)", Asked.busy().saying(3, 7));
    }

    private void depthAndRoots() {
        a.sentence(6, "(0: it FOLLOWS from none). ROOTS of it: SAYINGS from which it comes that FOLLOW from none (itself, if it is so)");
        UnsaidWell x = Asked.yardOf(Asked.CHAIN);
        for (int s = 0; s < 10; s++) {
            a.due(s, "saying(" + s + ", 4)", x.saying(s, 4));
            a.due(1, "saying(" + s + ", 5)", x.saying(s, 5));
            a.due(s == 0 ? 0 : 1 << s - 1, "saying(" + s + ", 7)", x.saying(s, 7));
        }
        x = Asked.yardOf("y0 0;p1;" + "s0 1 1;".repeat(10) + "f0 9;f1 9;f2 9;f3 9;f4 9;f5 9;f6 9;f7 9;f8 9;");
        a.due(1, "saying(9, 4)", x.saying(9, 4));
        a.due(511, "saying(9, 5)", x.saying(9, 5));
        a.due(0, "saying(8, 4)", x.saying(8, 4));
        a.due(256, "saying(8, 5): itself", x.saying(8, 5));
        // The first saying is no root of what does not come from it.
        x = Asked.yardOf("y0 0;p1;" + "s0 1 1;".repeat(4) + "f1 2;f2 3;");
        a.due(2, "saying(3, 5)", x.saying(3, 5));
        a.due(1, "saying(0, 5)", x.saying(0, 5));
        a.due(0, "saying(1, 4)", x.saying(1, 4));
        // A root that is told behind what is deep is one all the same.
        x = Asked.yardOf("y0 0;p1;" + "s0 1 1;".repeat(3) + "f0 1;");
        a.due(0, "saying(2, 4)", x.saying(2, 4));
        a.due(4, "saying(2, 5)", x.saying(2, 5));
        // The longer way counts, whichever was told first.
        a.due(2, "saying(2, 4)", Asked.yardOf("y0 0;p1;" + "s0 1 1;".repeat(3) + "f0 2;f1 2;f0 1;").saying(2, 4));
    }

    private void falls() {
        a.sentence(6, "FALLS: what HOLDS now, and would not, if a SAYING were UNSAID");
        UnsaidWell x = Asked.yardOf(Asked.CHAIN);
        a.due(1023, "saying(0, 6): all", x.saying(0, 6));
        a.due(512, "saying(9, 6): itself alone", x.saying(9, 6));
        x.pour(0, 5);
        a.due(31, "saying(0, 6): what holds still", x.saying(0, 6));
        a.due(0, "saying(5, 6): it is UNSAID", x.saying(5, 6));
        a.due(0, "saying(9, 6): it does not hold", x.saying(9, 6));
    }

    // ---- promise 7

    private void personUnknown() {
        a.sentence(7, "3 SHARE. UNKNOWN, OUTSIDE.");
        for (int p : new int[] {-1, 2, 5, LEAST, MOST}) {
            a.refused(UNKNOWN, "person(" + p + ", 0)", Asked::busy, x -> x.person(p, 0));
            a.due(UNKNOWN, "person(" + p + ", 4): UNKNOWN comes first", Asked.busy().person(p, 4));
        }
        UnsaidWell five = Asked.yardOf(Asked.CHAIN);
        a.due(1, "person(4, 0)", five.person(4, 0));
        a.due(UNKNOWN, "person(5, 0)", five.person(5, 0));
    }

    private void personWhat() {
        a.sentence(7, "Of a PERSON: what = 0 ARM, 1 his SAYINGS (a SET), 2 LEANS");
        for (int what : new int[] {-1, 4, LEAST, MOST}) {
            a.refused(OUTSIDE, "person(0, " + what + ")", Asked::busy, x -> x.person(0, what));
        }
        UnsaidWell x = Asked.yardOf(Asked.CHAIN);
        a.due(9, "person(0, 0)", x.person(0, 0));
        a.due(1023, "person(0, 1): all", x.person(0, 1));
        a.due(0, "person(4, 1): none", x.person(4, 1));
    }

    private void leans() {
        a.sentence(7, "LEANS: other PERSONS (a SET of PERSONS) from whose SAYINGS those of a PERSON FOLLOW straight");
        a.due(0, "person(0, 2): he leans on himself alone", Asked.yardOf(Asked.CHAIN).person(0, 2));
        a.due(0, "person(4, 2): he has none", Asked.yardOf(Asked.CHAIN).person(4, 2));
        UnsaidWell x = Asked.yardOf("y0 0;p1;p1;p1;p1;p1;s0 1 1;s1 1 1;s2 1 1;s3 1 1;s4 1 1;f0 4;f1 4;f2 4;f3 4;f0 1;");
        a.due(15, "person(4, 2): on all others", x.person(4, 2));
        a.due(1, "person(1, 2)", x.person(1, 2));
        a.due(0, "person(0, 2)", x.person(0, 2));
        x = Asked.yardOf("y0 0;p1;p1;p1;s0 1 1;s1 1 1;s2 1 1;f0 1;f1 2;");
        a.due(2, "person(2, 2): straight alone", x.person(2, 2));
    }

    private void shares() {
        a.sentence(7, "LEVEL times ARM / all ARMS (cut); what is left over goes, a pail each, to the first");
        UnsaidWell x = Asked.yardOf("y0 0;p1;p9;");
        a.due(0, "person(0, 3) of an empty well", x.person(0, 3));
        a.due(0, "person(1, 3) of an empty well", x.person(1, 3));
        a.due(99, "person(0, 3) of one alone", Asked.yardOf("y99 0;p1;").person(0, 3));
        for (int level = 0; level <= 9; level++) {
            x = Asked.yardOf("y" + level + " 0;p9;p9;p9;p9;p9;");
            for (int p = 0; p < 5; p++) {
                a.due(level / 5 + (p < level % 5 ? 1 : 0), "person(" + p + ", 3) of " + level, x.person(p, 3));
            }
        }
        // 99 by 1, 9, 1, 9, 1 of 21: 4, 42, 4, 42, 4 and three left over.
        int[] due = {5, 43, 5, 42, 4};
        x = Asked.yardOf("y99 0;p1;p9;p1;p9;p1;");
        for (int p = 0; p < 5; p++) {
            a.due(due[p], "person(" + p + ", 3) of 99", x.person(p, 3));
        }
    }

    // ---- promise 8

    private void queuedNone() {
        a.sentence(8, "The n-th in THE QUEUE (0 the first): what = 0 the PERSON, 1 the SAYING; NONE.");
        UnsaidWell x = Asked.yardOf(Asked.YARD);
        a.due(NONE, "queued(0, 0) of an empty queue", x.queued(0, 0));
        a.due(NONE, "queued(0, 1) of an empty queue", x.queued(0, 1));
        for (int i = 0; i < 6; i++) {
            x.queue(i % 2, i % 4);
            a.due(i % 2, "queued(" + i + ", 0)", x.queued(i, 0));
            a.due(i % 4, "queued(" + i + ", 1)", x.queued(i, 1));
            a.due(NONE, "queued(" + (i + 1) + ", 0)", x.queued(i + 1, 0));
            a.due(NONE, "queued(" + (i + 1) + ", 1)", x.queued(i + 1, 1));
        }
        for (int n : new int[] {-1, 6, 7, LEAST, MOST}) {
            a.due(NONE, "queued(" + n + ", 0)", x.queued(n, 0));
            a.due(NONE, "queued(" + n + ", 1)", x.queued(n, 1));
        }
        for (int i = 0; i < 6; i++) {
            x.vow(i % 4, true);
        }
        x.turn();
        a.due(NONE, "queued(5, 0): one has left", x.queued(5, 0));
    }

    private void queuedWhat() {
        a.sentence(8, "OUTSIDE (what).");
        for (int what : new int[] {-1, 2, LEAST, MOST}) {
            a.refused(OUTSIDE, "queued(0, " + what + ")", Asked::busy, x -> x.queued(0, what));
            a.due(OUTSIDE, "queued(9, " + what + ")", Asked.busy().queued(9, what));
            a.due(OUTSIDE, "queued(-1, " + what + ")", Asked.busy().queued(-1, what));
            a.due(OUTSIDE, "queued(0, " + what + ") without a YARD", new UnsaidWell().queued(0, what));
        }
    }
}
