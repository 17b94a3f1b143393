import java.io.IOException;
import java.nio.charset.StandardCharsets;
import java.nio.file.Files;
import java.nio.file.Path;
import java.util.TreeSet;
import java.util.function.Supplier;
import java.util.function.ToIntFunction;

/** What the boundary tests share: a sentence of the document at a time, and the answers that it makes due. */
final class Asked {
    static final int NONE = -1, UNKNOWN = -1000000001, OUTSIDE = -1000000002, NOT = -1000000003, FULL = -1000000004;
    static final int LEAST = Integer.MIN_VALUE, MOST = Integer.MAX_VALUE;
    /** Two persons; 2 follows from 0 and 1, 3 from 2. Worths 10, -10, 30, -40. */
    static final String YARD = "y12 3;p4;p3;s0 5 60;s1 3 40;s0 4 80;s1 2 10;f0 2;f1 2;f2 3;";
    /** Five persons, ten sayings, each following from the one ahead of it. */
    static final String CHAIN = "y99 20;p9;p1;p1;p1;p1;" + "s0 1 50;".repeat(10)
            + "f0 1;f1 2;f2 3;f3 4;f4 5;f5 6;f6 7;f7 8;f8 9;";
    private static final Path DOCUMENT = Path.of("../shared/DOC.md");

    private final String document;
    private final TreeSet<Integer> promises = new TreeSet<>();
    private int promise;
    private String words = "";
    private int sentences = 0;
    private int answers = 0;
    private int wrong = 0;

    Asked() throws IOException {
        document = Files.exists(DOCUMENT) ? Files.readString(DOCUMENT, StandardCharsets.UTF_8) : null;
    }

    /** What is asked from here on is due by these words; they must stand in the document, if it is at hand. */
    void sentence(int number, String said) {
        promise = number;
        words = said;
        sentences++;
        promises.add(number);
        if (document != null && !document.contains(said)) {
            wrong++;
            System.out.println("promise " + number + ": the document does not say: " + said);
        }
    }

    void due(int want, String call, int got) {
        answers++;
        if (want != got) {
            tell(call, "" + got, "" + want);
        }
    }

    void same(String want, String what, String got) {
        answers++;
        if (!want.equals(got)) {
            tell(what, got, want);
        }
    }

    private void tell(String what, String got, String want) {
        wrong++;
        System.out.println("promise " + promise + ", '" + words + "': " + what + " answered " + got + ", due is " + want);
    }

    /** That the call answers this refusal, and that by no later call it can be seen to have been made. */
    void refused(int want, String call, Supplier<UnsaidWell> maker, ToIntFunction<UnsaidWell> made) {
        UnsaidWell x = maker.get();
        due(want, call, made.applyAsInt(x));
        same(allToCome(maker.get()), "what is seen behind " + call, allToCome(x));
    }

    void refused(int want, String call, String text, ToIntFunction<UnsaidWell> made) {
        refused(want, call, () -> yardOf(text), made);
    }

    /** That yard() finds this FAULT at this letter of the text. */
    void fault(int kind, int at, String text) {
        UnsaidWell x = new UnsaidWell();
        feed(x, text);
        due(-10 - kind, "yard() of '" + text + "'", x.yard());
        due(at, "fault() of '" + text + "'", x.fault());
    }

    /** That yard() takes the text, with so many SAYINGS. */
    void taken(int sayings, String text) {
        UnsaidWell x = new UnsaidWell();
        feed(x, text);
        due(sayings, "yard() of '" + text + "'", x.yard());
        due(NONE, "fault() of '" + text + "'", x.fault());
    }

    void end(int first, int last) {
        for (int number = first; number <= last; number++) {
            if (!promises.contains(number)) {
                wrong++;
                System.out.println("no sentence of promise " + number + " was tested");
            }
        }
        System.out.println(sentences + " sentences, " + answers + " answers, " + wrong + " wrong");
        if (wrong != 0) {
            System.exit(1);
        }
    }

    static void feed(UnsaidWell x, String text) {
        for (int i = 0; i < text.length(); i++) {
            x.feed(text.charAt(i));
        }
    }

    static UnsaidWell yardOf(String text) {
        UnsaidWell x = new UnsaidWell();
        feed(x, text);
        if (x.yard() < 0) {
            throw new IllegalArgumentException("the test's own text has a fault: " + text);
        }
        return x;
    }

    /** A yard in which nothing is as at first: two images, a book, a queue, letters fed, four that can be undone. */
    static UnsaidWell busy() {
        UnsaidWell x = yardOf(YARD);
        x.seed(77);
        x.keep(0);
        x.pour(1, 3);
        x.queue(1, 1);
        x.rain(50);
        x.night(1);
        x.seed(78);
        x.keep(1);
        x.pour(0, 0);
        x.vow(2, true);
        x.queue(0, 2);
        x.rain(9);
        x.write(0, false);
        x.write(3, false);
        feed(x, "y1 1;p");
        return x;
    }

    static int seedOf(UnsaidWell x) {
        int seed = x.seed(0);
        x.seed(seed);
        return seed;
    }

    /** All that is so in the YARD now: what told(), saying() and queued() tell, but for THE TEXT, THE BOOK, THE PAST. */
    static String picture(UnsaidWell x) {
        StringBuilder all = new StringBuilder();
        for (int what = 0; what <= 16; what++) {
            if (what != 3 && what != 14 && what != 15) {
                all.append(x.told(what)).append(' ');
            }
        }
        for (int s = 0; s < x.told(1); s++) {
            all.append(x.saying(s, 3)).append(' ');
        }
        for (int n = 0; n < x.told(13); n++) {
            all.append(x.queued(n, 0)).append(',').append(x.queued(n, 1)).append(' ');
        }
        return all.toString();
    }

    /** All that can be had from it by later calls; it is used up by that. */
    static String allToCome(UnsaidWell x) {
        StringBuilder all = new StringBuilder(picture(x));
        all.append("| text ").append(x.told(3)).append(" book ").append(x.told(14)).append(" judge ").append(x.judge());
        all.append(" fault ").append(x.fault()).append(" seed ").append(seedOf(x));
        for (int left = x.told(15); left > 0; left--) {
            all.append("| undo ").append(x.undo()).append(' ').append(x.told(4)).append(' ').append(x.told(5));
            all.append(' ').append(x.told(6)).append(' ').append(x.told(8)).append(' ').append(x.told(9));
            all.append(' ').append(x.told(10)).append(' ').append(x.told(13));
        }
        all.append("| undo ").append(x.undo()).append(' ').append(picture(x)).append(" seed ").append(seedOf(x));
        for (int i = 0; i < 2; i++) {
            all.append("| image ").append(x.goBack(i)).append(' ').append(picture(x)).append(" seed ").append(seedOf(x));
        }
        return all.append("| yard ").append(x.yard()).append(' ').append(x.fault()).toString();
    }
}
