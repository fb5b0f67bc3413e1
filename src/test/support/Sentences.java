import java.io.IOException;
import java.nio.file.Files;
import java.nio.file.Path;
import java.util.ArrayList;
import java.util.List;
import java.util.Set;
import java.util.TreeSet;

/**
 * What the tests of the document's boundary cases share: each test names the sentence it is about, which must stand in
 * the document word by word, and then says which answers are due. The tests extend this class to call it by plain names.
 */
abstract class Sentences {
    static final int NONE = -1, UNKNOWN = -101, OUTSIDE = -102, STATE = -103, FULL = -104;
    static final int MIN = Integer.MIN_VALUE, MAX = Integer.MAX_VALUE;
    static final int PLAIN = 0, CHEESE = 1, JASMINE = 2, TANNERY = 3, VAT = 4;
    static final int STILL = 0, RIGHT = 1, LEFT = 2, DOWN = 3, UP = 4;
    private static final Path DOCUMENT = Path.of("../shared/DOC.md");

    private static final Set<String> headings = new TreeSet<>();
    private static String sentence = "";
    private static int sentences = 0;
    private static int checks = 0;
    private static int wrong = 0;

    interface Made {
        SmellBorders one();
    }

    interface Call {
        long on(SmellBorders x);
    }

    static void says(int promise, String quote) {
        says("Promise " + promise + ":", quote);
    }

    /** Begins the test of a sentence under a heading of the document. */
    static void says(String heading, String quote) {
        sentence = heading + ", \"" + quote + "\"";
        sentences++;
        headings.add(heading);
        String document = oneLine(document());
        int from = document.indexOf("## " + heading);
        int to = from < 0 ? -1 : document.indexOf(" ## ", from);
        String part = from < 0 ? "" : document.substring(from, to < 0 ? document.length() : to);
        if (!document.isEmpty()) due("the sentence stands in the document", part.contains(oneLine(quote)) ? 1 : 0, 1);
    }

    /** Nothing, where the document is not at hand: the answers are due all the same. */
    private static String document() {
        try {
            return Files.isReadable(DOCUMENT) ? Files.readString(DOCUMENT) : "";
        } catch (IOException e) {
            return "";
        }
    }

    private static String oneLine(String text) {
        return text.replaceAll("\\s+", " ");
    }

    static void due(String what, long got, long want) {
        checks++;
        if (got != want) {
            wrong++;
            System.out.println((sentence.isEmpty() ? "" : sentence + ": ") + what + " answered " + got + ", due is " + want);
        }
    }

    /** The call is refused, and changes nothing: behind it all is told as by a twin that never had it. */
    static void refused(String what, Made made, Call call, long want) {
        SmellBorders x = made.one();
        due(what, call.on(x), want);
        alike(what + " changes nothing", x, made.one());
    }

    static void alike(String what, SmellBorders x, SmellBorders twin) {
        List<Long> got = allTold(x);
        List<Long> want = allTold(twin);
        due(what + ": how much is told", got.size(), want.size());
        for (int i = 0; i < Math.min(got.size(), want.size()); i++) {
            due(what + ": answer " + i, got.get(i), want.get(i));
        }
    }

    /** Answers that show all that an object holds, the noses by what they leave possible, the image by going back to it. */
    private static List<Long> allTold(SmellBorders x) {
        List<Long> told = new ArrayList<>();
        tellMore(told, x);
        told.add((long) x.restore());
        tellMore(told, x);
        told.add((long) x.hour());
        tellMore(told, x);
        told.add((long) x.letter('.'));
        told.add(x.digest());
        return told;
    }

    private static void tellMore(List<Long> told, SmellBorders x) {
        told.add(x.digest());
        told.add((long) x.fault());
        for (int source = 0; source < 6; source++) {
            told.add((long) x.about(source, 10));
            told.add((long) x.about(source, 17));
        }
        told.add((long) x.unknown(0));
        told.add((long) x.unknown(1));
        told.add((long) x.sniff());
        told.add((long) x.walls(6, 0, 1));
        told.add((long) x.days(7, 1234, 0));
    }

    static SmellBorders write(SmellBorders x, String text) {
        for (int i = 0; i < text.length(); i++) {
            x.letter(text.charAt(i));
        }
        return x;
    }

    static SmellBorders page(String text) {
        return write(new SmellBorders(), text);
    }

    static SmellBorders valley(String text) {
        SmellBorders x = page(text);
        if (x.valley() < 0) throw new IllegalArgumentException(text);
        return x;
    }

    /** Sources of all kinds but one, an image of other days, noses, people, taxes, a page begun, calls that are counted. */
    static SmellBorders busy() {
        SmellBorders x = valley(".#w./....;2");
        x.source(VAT, 0, 0, 6);
        x.source(CHEESE, 1, 3, 3);
        x.source(JASMINE, 2, 7, 8);
        x.people(0, 9);
        x.people(2, 5);
        x.wind(DOWN);
        x.nose(4, 0);
        x.hour();
        x.dusk();
        x.image();
        x.source(PLAIN, 1, 5, 2);
        x.burn(1, false);
        x.wind(RIGHT);
        x.hour();
        x.nose(6, 2);
        x.people(4, 7);
        x.dusk();
        x.walls(4, 0, 0);
        x.unknown(0);
        x.sniff();
        return write(x, ".#w");
    }

    static void smells(String what, SmellBorders x, int source, int... want) {
        for (int cell = 0; cell < want.length; cell++) {
            due(what + ", about(" + source + ", " + (10 + cell) + ")", x.about(source, 10 + cell), want[cell]);
        }
    }

    static void whose(String what, SmellBorders x, int... want) {
        for (int cell = 0; cell < want.length; cell++) {
            due(what + ", cell(" + cell + ", 1)", x.cell(cell, 1), want[cell]);
        }
    }

    static void counts(String what, SmellBorders x, int... want) {
        for (int i = 0; i < want.length; i++) {
            due(what + ", count(" + i + ")", x.count(i), want[i]);
        }
    }

    /** The first numbers refused on either side of a range, the farthest, and such as a narrower type would take for right. */
    static int[] beyond(int first, int last) {
        return new int[] {first - 1, last + 1, MIN, MAX, first - 256, first + 256, last + 65536, first + (1 << 30)};
    }

    static int[] between(int first, int last) {
        int[] all = new int[last - first + 1];
        for (int i = 0; i < all.length; i++) {
            all[i] = first + i;
        }
        return all;
    }

    /** Ends the test; the promises from one number to another must all have been named. */
    static void end(int firstPromise, int lastPromise) {
        for (int promise = firstPromise; promise <= lastPromise; promise++) {
            if (!headings.contains("Promise " + promise + ":")) {
                wrong++;
                System.out.println("no sentence of promise " + promise);
            }
        }
        System.out.println(sentences + " sentences");
        end();
    }

    static void end() {
        System.out.println(checks + " checks, " + wrong + " wrong");
        if (wrong != 0) System.exit(1);
    }
}
