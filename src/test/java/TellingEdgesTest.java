import java.math.BigInteger;
import java.util.ArrayList;
import java.util.List;

/** The boundary cases of what is told of all: images, counts, the digest, promises 25 to 28, and of refusals. */
public final class TellingEdgesTest extends Sentences {
    // ---- promise 25: image

    private static void refusedImage() {
        says(25, "STATE: no VALLEY.");
        refused("image()", SmellBorders::new, SmellBorders::image, STATE);
        refused("behind a page", () -> page("..../....;1"), SmellBorders::image, STATE);
        SmellBorders x = new SmellBorders();
        x.image();
        write(x, "..../....;1").valley();
        due("a refused image is none", x.restore(), STATE);
    }

    private static void oneTheLatest() {
        says(25, "An IMAGE is kept (one; the latest): the HOUR.");
        SmellBorders x = valley("..../....;1");
        for (int hour = 0; hour < 5; hour++) {
            due("image() in hour " + hour, x.image(), hour);
            due("the next hour", x.hour(), hour + 1);
        }
        due("the latest", x.restore(), 4);
        due("no other is behind it", x.restore(), 4);
        due("an image of what was restored", x.image(), 4);
    }

    private static void imageChangesNothing() {
        says(25, "An IMAGE is kept (one; the latest): the HOUR.");
        SmellBorders x = busy();
        long before = x.digest();
        int unknown = x.unknown(0);
        long asked = x.digest();
        due("image()", x.image(), 2);
        due("what is stays", x.digest(), asked);
        due("restore() at once", x.restore(), 2);
        due("all is as it was", x.digest(), asked);
        due("the noses, too", x.unknown(0), unknown);
        due("but how often was asked", asked == before ? 1 : 0, 0);
    }

    // ---- promise 26: restore

    private static void refusedRestore() {
        says(26, "STATE: none was kept, or there is another VALLEY since.");
        refused("no VALLEY", SmellBorders::new, SmellBorders::restore, STATE);
        refused("none was kept", () -> valley("..../....;1"), SmellBorders::restore, STATE);
        Made another = () -> {
            SmellBorders x = busy();
            x.blank();
            write(x, ".#w./....;2").valley();
            x.source(VAT, 1, 7, 5);
            return x;
        };
        refused("another VALLEY since, of the same text", another, SmellBorders::restore, STATE);
        SmellBorders x = another.one();
        due("an image of the other", x.image(), 0);
        due("is restored", x.restore(), 0);
        SmellBorders refused = busy();
        due("a page that is no valley", refused.valley(), STATE);
        due("is none since", refused.restore(), 1);
    }

    /** All that an image keeps, each thing changed behind it alone: it must be as it was. */
    private static void keeps(String what, Call change) {
        Made made = () -> {
            SmellBorders x = busy();
            x.image();
            return x;
        };
        SmellBorders x = made.one();
        long before = x.digest();
        change.on(x);
        due(what + ": restore()", x.restore(), 2);
        due(what + ": digest()", x.digest(), before);
        alike(what, x, made.one());
    }

    private static void allThatAnImageKeeps() {
        says("Terms", "An IMAGE keeps how many SOURCES there are (those that come since are gone by restore()), which BURN, "
            + "how long each BURNT, WIND, FROST, the HOUR, PEOPLE, TAXES, NOSES.");
        keeps("how many SOURCES", x -> x.source(CHEESE, 2, 6, 9));
        keeps("which BURN: one no more", x -> x.burn(0, false));
        keeps("which BURN: one again", x -> x.burn(1, true));
        keeps("how long each BURNT, the HOUR", SmellBorders::hour);
        keeps("WIND", x -> x.wind(UP));
        keeps("no WIND", x -> x.wind(STILL));
        keeps("FROST", x -> x.frost(true));
        keeps("PEOPLE", x -> x.people(0, 0));
        keeps("PEOPLE of the last cell", x -> x.people(7, 9));
        keeps("TAXES", SmellBorders::dusk);
        keeps("NOSES: more", x -> x.nose(0, 1));
        keeps("NOSES: none", SmellBorders::forget);
        keeps("NOSES: others", x -> x.forget() + x.nose(0, 2) + x.nose(1, NONE));
    }

    private static void frostIsKept() {
        says("Terms", "An IMAGE keeps");
        SmellBorders x = valley("..../....;1");
        x.frost(true);
        x.image();
        x.frost(false);
        x.restore();
        due("frost", x.count(5), 1);
        due("frost, as it was", x.frost(false), 1);
    }

    private static void thoseThatComeSince() {
        says("Terms", "(those that come since are gone by restore())");
        SmellBorders x = valley("..../....;1");
        x.image();
        for (int i = 0; i < 6; i++) {
            x.source(CHEESE, 0, 0, 1);
        }
        x.hour();
        x.burn(0, false);
        due("none was there", x.restore(), 0);
        due("count(2)", x.count(2), 0);
        for (int source = 0; source < 6; source++) {
            due("about(" + source + ", 0)", x.about(source, 0), UNKNOWN);
        }
        due("nobody's", x.cell(0, 1), NONE);
        for (int i = 0; i < 6; i++) {
            due("six may come again", x.source(PLAIN, 1, 7, 2), i);
            due("as another", x.about(i, 0), PLAIN);
            due("it burns", x.about(i, 4), 1);
            due("it has burnt no hour", x.about(i, 5), 0);
        }
        x.image();
        due("an image of six is full", x.source(PLAIN, 1, 7, 2), FULL);
        due("restore()", x.restore(), 0);
        due("restored it is full", x.source(PLAIN, 1, 7, 2), FULL);
    }

    private static void againAndAgain() {
        says(26, "It goes on from the IMAGE: the HOUR.");
        SmellBorders x = busy();
        for (int i = 0; i < 3; i++) {
            due("restore() " + i, x.restore(), 1);
            due("the image is not what is: sources", x.count(2), 3);
            x.source(PLAIN, 0, 4, 9);
            x.burn(0, false);
            x.people(0, 1);
            x.forget();
            x.nose(5, i - 1);
            x.dusk();
            x.frost(true);
            due("it goes on", x.hour(), 2);
        }
        due("restore() at last", x.restore(), 1);
        due("it burns", x.about(0, 4), 1);
        due("people", x.cell(0, 3), 9);
        due("noses", x.count(11), 1);
    }

    private static void notKept() {
        says("Terms", "An IMAGE keeps");
        SmellBorders x = busy();
        x.letter('.');
        x.walls(0, 0, 0);
        x.unknown(0);
        x.sniff();
        x.restore();
        due("the page", x.count(12), 4);
        due("how often a VALLEY was read", x.count(13), 1);
        due("how often walls() was done", x.count(14), 2);
        due("how often unknown(), sniff()", x.count(15), 4);
    }

    // ---- promise 27: count

    private static void leastCounts() {
        says(27, "1 FADE (0: no VALLEY)");
        counts("no VALLEY", new SmellBorders(), 0, 0, 0, 0, 0, 0, 0, 0, 0, 0, 0, 0, 0, 0, 0, 0);
        counts("a page", page("..../....;3"), 0, 0, 0, 0, 0, 0, 0, 0, 0, 0, 0, 0, 11, 0, 0, 0);
        counts("walls", valley("####/####;3"), 0, 3, 0, 0, 0, 0, 0, 0, 0, 0, 0, 0, 0, 1, 0, 0);
    }

    private static SmellBorders fullest() {
        SmellBorders x = valley("####/####;1");
        write(x, "..../....;3").valley();
        for (int i = 0; i < 6; i++) {
            x.source(VAT, i % 3, i < 3 ? i : i + 2, 9);
        }
        for (int cell = 0; cell < 8; cell++) {
            x.people(cell, 9);
            x.nose(cell, 0);
        }
        for (int i = 0; i < 35; i++) {
            x.walls(0, 0, 0);
            x.unknown(0);
        }
        x.dusk();
        x.frost(true);
        x.wind(UP);
        x.hour();
        return write(x, "...............");
    }

    private static void greatestCounts() {
        says(27, "How many: 0 open CELLS, 1 FADE (0: no VALLEY), 2 SOURCES, 3 that BURN, 4 the WIND, 5 whether there is FROST "
            + "(1, 0), 6 the HOUR, 7 to 9 TAXES of PARISH 0 to 2, 10 CELLS that are somebody's, 11 NOSES, 12 letters of THE "
            + "PAGE, 13 how often a VALLEY was read, 14 how often walls() was done, 15 unknown(), sniff().");
        // The vats' own cells: 0 and 5 are 0's, 1 and 6 are 1's, 2 and 7 are 2's; 3 has 7 of 2 and 7, of like ones 2's; 4 is 0's.
        counts("the fullest", fullest(), 8, 3, 6, 6, 4, 1, 1, 27, 18, 27, 8, 8, 14, 2, 20, 30);
        SmellBorders x = fullest();
        for (int source = 0; source < 6; source++) {
            x.burn(source, false);
            due("that BURN", x.count(3), 5 - source);
        }
        due("nothing burns, nothing is somebody's", x.count(10), 0);
        due("SOURCES all the same", x.count(2), 6);
    }

    private static void refusedCount() {
        says(27, "OUTSIDE.");
        for (int what : beyond(0, 15)) {
            refused("count(" + what + ")", Sentences::busy, x -> x.count(what), OUTSIDE);
            refused("no VALLEY, count(" + what + ")", SmellBorders::new, x -> x.count(what), OUTSIDE);
        }
    }

    // ---- promise 28: digest

    private static List<Long> numbersOf(SmellBorders x, String letters) {
        List<Long> numbers = new ArrayList<>();
        for (int cell = 0; x.count(1) > 0 && cell < 8; cell++) {
            for (int what = 0; what <= 4; what++) {
                numbers.add((long) x.cell(cell, what));
            }
            for (int parish = 0; parish <= 2; parish++) {
                numbers.add((long) x.hold(cell, parish));
            }
        }
        for (int source = 0; source < x.count(2); source++) {
            for (int what = 0; what <= 7; what++) {
                numbers.add((long) x.about(source, what));
            }
        }
        numbers.add((long) x.borders());
        letters.chars().forEach(letter -> numbers.add((long) letter));
        for (int what = 0; what <= 15; what++) {
            numbers.add((long) x.count(what));
        }
        return numbers;
    }

    /** Over whole numbers without end, and only then as a long. */
    private static long folded(List<Long> numbers) {
        BigInteger h = BigInteger.valueOf(811);
        for (long number : numbers) {
            h = h.multiply(BigInteger.valueOf(31)).add(BigInteger.valueOf(number));
        }
        return h.longValue();
    }

    private static void digestWraps() {
        says(28, "h is 811, then for each of these numbers, in order, 31 times h, and it (as longs, wrapping)");
        SmellBorders none = new SmellBorders();
        due("a new object", none.digest(), folded(numbersOf(none, "")));
        SmellBorders x = busy();
        due("a busy one", x.digest(), folded(numbersOf(x, ".#w")));
        SmellBorders full = fullest();
        due("the fullest", full.digest(), folded(numbersOf(full, "..............")));
        due("digest() changes nothing", full.digest(), folded(numbersOf(full, "..............")));
    }

    private static void digestWithAValley() {
        says(28, "with a VALLEY of each CELL what cell() tells for 0 to 4, for each PARISH HOLD");
        SmellBorders x = page("..../....;1");
        due("a page, no VALLEY yet", x.digest(), folded(numbersOf(x, "..../....;1")));
        x.valley();
        due("a VALLEY without sources", x.digest(), folded(numbersOf(x, "")));
        x.source(JASMINE, 2, 0, 9);
        x.source(CHEESE, 1, 7, 1);
        due("held for a while", x.digest(), folded(numbersOf(x, "")));
        x.hour();
        due("held by others", x.digest(), folded(numbersOf(x, "")));
        due("some hold 24, some less", x.hold(0, 2) + x.hold(7, 1) > 0 ? 1 : 0, 1);
    }

    private static void lettersInDigest() {
        says(28, "letters of THE PAGE");
        SmellBorders x = new SmellBorders();
        for (int code : new int[] {1, 126}) {
            x.letter(code);
        }
        due("the least and the greatest code", x.digest(), folded(numbersOf(x, "" + (char) 1 + (char) 126)));
        x.blank();
        due("no letters", x.digest(), folded(numbersOf(x, "")));
    }

    // ---- refusals

    private static void refusalsAreTheirNumbers() {
        says("The public face", "NONE = -1, UNKNOWN = -101, OUTSIDE = -102, STATE = -103, FULL = -104");
        due("NONE", SmellBorders.NONE, NONE);
        due("UNKNOWN", SmellBorders.UNKNOWN, UNKNOWN);
        due("OUTSIDE", SmellBorders.OUTSIDE, OUTSIDE);
        due("STATE", SmellBorders.STATE, STATE);
        due("FULL", SmellBorders.FULL, FULL);
    }

    private static void aNumberNamesNothing() {
        says("Terms", "UNKNOWN (a number names nothing)");
        SmellBorders x = valley("..../....;1");
        due("no source yet", x.about(0, 0), UNKNOWN);
        x.source(PLAIN, 0, 0, 1);
        due("the first", x.about(0, 0), 0);
        due("no second", x.about(1, 0), UNKNOWN);
        due("a cell of another valley", x.cell(8, 0), UNKNOWN);
    }

    /** Refused calls of all kinds in a row, as a run of them might add up to a change. */
    private static void refusedInARow() {
        says("Terms", "they change nothing.");
        SmellBorders x = busy();
        for (int i = 0; i < 8; i++) {
            due("letter(0)", x.letter(0), OUTSIDE);
            due("valley()", x.valley(), STATE);
            due("cell(8, 0)", x.cell(8, 0), UNKNOWN);
            due("source(0, 0, 1, 1)", x.source(0, 0, 1, 1), STATE);
            due("about(4, 0)", x.about(4, 0), UNKNOWN);
            due("as(0, 5)", x.as(0, 5), OUTSIDE);
            due("burn(4, true)", x.burn(4, true), UNKNOWN);
            due("wind(5)", x.wind(5), OUTSIDE);
            due("people(1, 1)", x.people(1, 1), STATE);
            due("weakest(0, 3, 0)", x.weakest(0, 3, 0), OUTSIDE);
            due("walls(0, 0, 2)", x.walls(0, 0, 2), OUTSIDE);
            due("hold(0, -1)", x.hold(0, -1), OUTSIDE);
            due("nose(0, 3)", x.nose(0, 3), OUTSIDE);
            due("unknown(2)", x.unknown(2), OUTSIDE);
            due("days(61, 0, 0)", x.days(61, 0, 0), OUTSIDE);
            due("count(16)", x.count(16), OUTSIDE);
        }
        alike("behind 128 refused calls", x, busy());
    }

    private static void busyIsBusy() {
        says("Terms", "they change nothing.");
        SmellBorders x = busy();
        int unknown = x.unknown(0);
        due("some sources are possible, not all", unknown > 0 && unknown < 6 * 27 ? 1 : 0, 1);
        due("the image is of another hour", x.restore(), 1);
        int then = x.unknown(0);
        due("others are possible by the image", then > 0 && then < 6 * 27 && then != unknown ? 1 : 0, 1);
    }

    public static void main(String[] args) {
        refusedImage();
        oneTheLatest();
        imageChangesNothing();
        refusedRestore();
        allThatAnImageKeeps();
        frostIsKept();
        thoseThatComeSince();
        againAndAgain();
        notKept();
        leastCounts();
        greatestCounts();
        refusedCount();
        digestWraps();
        digestWithAValley();
        lettersInDigest();
        refusalsAreTheirNumbers();
        aNumberNamesNothing();
        refusedInARow();
        busyIsBusy();
        end(25, 28);
    }
}
