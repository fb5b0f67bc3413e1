import java.util.function.LongSupplier;

/** For each promise of the document: ordinary inputs, the edges it names, wrong inputs. Answers are worked out by hand. */
public final class PromisesTest extends Sentences {
    /** A refusal must change nothing: the digest before and after is the same. */
    private static void refused(String what, SmellBorders x, LongSupplier call, long want) {
        long before = x.digest();
        due(what, call.getAsLong(), want);
        due(what + " changes nothing", x.digest(), before);
    }

    private static void promise1NewObject() {
        SmellBorders x = new SmellBorders();
        for (int what = 0; what < 16; what++) {
            due("new: count(" + what + ")", x.count(what), 0);
        }
        due("new: borders", x.borders(), 0);
        due("new: fault", x.fault(), 0);
        due("new: blank", x.blank(), 0);
        due("new: forget", x.forget(), 0);
        due("new: about", x.about(0, 0), UNKNOWN);
        due("new: as", x.as(0, 0), UNKNOWN);
        due("new: burn", x.burn(0, true), UNKNOWN);
        due("new: restore", x.restore(), STATE);
    }

    private static void promise2Letter() {
        SmellBorders x = new SmellBorders();
        due("letter(1)", x.letter(1), 1);
        due("letter(126)", x.letter(126), 2);
        for (int code : new int[] {0, -1, 127, MIN, MAX}) {
            refused("letter(" + code + ")", x, () -> x.letter(code), OUTSIDE);
        }
        for (int i = 3; i <= 14; i++) {
            due("letter " + i, x.letter('.'), i);
        }
        refused("the 15th letter", x, () -> x.letter('.'), FULL);
        refused("a wrong letter on a full page", x, () -> x.letter(127), OUTSIDE);
        due("count(12) of a full page", x.count(12), 14);
    }

    private static void promise3Blank() {
        SmellBorders x = write(new SmellBorders(), "....");
        due("blank", x.blank(), 4);
        due("blank again", x.blank(), 0);
        due("count(12) after blank", x.count(12), 0);
        due("letter after blank", x.letter('.'), 1);
        write(x, ".............");
        due("blank of a full page", x.blank(), 14);
    }

    private static void faultOf(String text, int want) {
        due("fault of " + text, write(new SmellBorders(), text).fault(), want);
    }

    private static void promise4Fault() {
        faultOf("", 0);
        faultOf(".#w.", 4);
        faultOf(".#w./w#..;3", 11);
        faultOf("x", 0);
        faultOf("/", 0);
        faultOf("...W", 3);
        faultOf(".....", 4);
        faultOf("..../", 5);
        faultOf("....//", 5);
        faultOf("..../...;", 8);
        faultOf("..../.....", 9);
        faultOf("..../....;", 10);
        faultOf("..../....;0", 10);
        faultOf("..../....;1", 11);
        faultOf("..../....;3", 11);
        faultOf("..../....;4", 10);
        faultOf("..../....;11", 11);
        faultOf("..../....;1...", 11);
        faultOf("x.../....;0", 0);
    }

    private static void promise5Valley() {
        SmellBorders x = new SmellBorders();
        refused("valley of nothing", x, x::valley, STATE);
        write(x, "..w./.#.#;");
        refused("valley too short", x, x::valley, STATE);
        due("the page stays", x.count(12), 10);
        x.letter('2');
        due("valley", x.valley(), 5);
        due("the page is empty", x.count(12), 0);
        due("read once", x.count(13), 1);
        due("fade", x.count(1), 2);
        write(x, "..../....;11");
        refused("valley too long", x, x::valley, STATE);
        x.blank();
        write(x, "..../....;4");
        refused("fade 4", x, x::valley, STATE);
        due("no open cell", valley("ww##/####;1").count(0), 0);
        anotherValley();
    }

    private static void anotherValley() {
        SmellBorders x = valley("..../....;2");
        x.source(PLAIN, 1, 0, 9);
        x.people(0, 9);
        x.wind(RIGHT);
        x.frost(true);
        x.hour();
        x.dusk();
        x.nose(3, 2);
        x.image();
        x.walls(0, 0, 0);
        x.unknown(0);
        x.sniff();
        due("another valley", write(x, "####/#..#;3").valley(), 2);
        int[] want = {2, 3, 0, 0, 0, 0, 0, 0, 0, 0, 0, 0, 0, 2, 1, 2};
        for (int what = 0; what < want.length; what++) {
            due("another valley: count(" + what + ")", x.count(what), want[what]);
        }
        due("another valley: people", x.cell(5, 3), 0);
        due("another valley: people of a wall", x.cell(0, 3), 0);
        due("another valley: no source", x.about(0, 0), UNKNOWN);
        refused("another valley: restore", x, x::restore, STATE);
        due("another valley: sources from 0 on", x.source(PLAIN, 0, 5, 1), 0);
        due("another valley: burnt", x.about(0, 5), 0);
    }

    private static void promise6Cell() {
        SmellBorders none = new SmellBorders();
        refused("cell without a valley", none, () -> none.cell(0, 0), UNKNOWN);
        refused("cell without a valley, wrong what", none, () -> none.cell(0, 9), UNKNOWN);
        SmellBorders x = valley(".#w./..#.;1");
        int[] ground = {0, 1, 2, 0, 0, 0, 1, 0};
        for (int cell = 0; cell < 8; cell++) {
            due("ground of " + cell, x.cell(cell, 0), ground[cell]);
            due("nobody's " + cell, x.cell(cell, 1), NONE);
            due("nothing smells in " + cell, x.cell(cell, 2), 0);
            due("nobody lives on " + cell, x.cell(cell, 3), 0);
            due("by no source " + cell, x.cell(cell, 4), NONE);
        }
        x.source(PLAIN, 2, 3, 4);
        x.source(PLAIN, 1, 3, 4);
        due("of like ones the least number", x.cell(3, 1), 2);
        due("by which", x.cell(3, 4), 0);
        due("how much", x.cell(3, 2), 4);
        due("in water", x.cell(2, 2), 1);
        due("whose water", x.cell(2, 1), 2);
        x.source(PLAIN, 0, 3, 5);
        due("the most", x.cell(3, 1), 0);
        due("by the most", x.cell(3, 4), 2);
        x.people(2, 6);
        due("people", x.cell(2, 3), 6);
        for (int cell : new int[] {-1, 8, MIN, MAX}) {
            refused("cell(" + cell + ", 0)", x, () -> x.cell(cell, 0), UNKNOWN);
            refused("cell(" + cell + ", 5)", x, () -> x.cell(cell, 5), UNKNOWN);
        }
        for (int what : new int[] {-1, 5, MIN, MAX}) {
            refused("cell(0, " + what + ")", x, () -> x.cell(0, what), OUTSIDE);
        }
    }

    private static void promise7Borders() {
        SmellBorders x = valley("..../....;1");
        x.source(PLAIN, 0, 0, 9);
        due("one parish", x.borders(), 0);
        x.source(PLAIN, 1, 3, 9);
        // Cells 1 and 2, 5 and 6 meet; 9 8 8 9 above 8 7 7 8.
        due("two parishes", x.borders(), 2);
        x.source(PLAIN, 2, 4, 9);
        // The upper row is 0 0 1 1; the lower one 2 2 1 1.
        due("three parishes", x.borders(), 4);
        SmellBorders apart = valley("..../####;3");
        apart.source(PLAIN, 0, 0, 1);
        apart.source(PLAIN, 1, 2, 1);
        due("nobody's between", apart.borders(), 0);
        apart.source(PLAIN, 2, 1, 1);
        due("side by side", apart.borders(), 2);
        SmellBorders rows = valley("...#/#...;3");
        rows.source(PLAIN, 0, 2, 1);
        rows.source(PLAIN, 1, 5, 1);
        due("the rows' ends and corners do not touch", rows.borders(), 0);
        SmellBorders ends = valley("..../....;3");
        ends.source(PLAIN, 0, 3, 1);
        ends.source(PLAIN, 1, 4, 1);
        due("3 and 4 are not beside each other", ends.borders(), 0);
    }

    private static void promise8Source() {
        SmellBorders none = new SmellBorders();
        refused("source without a valley", none, () -> none.source(0, 0, 0, 1), UNKNOWN);
        refused("source without a valley, kind", none, () -> none.source(5, 0, 0, 1), OUTSIDE);
        SmellBorders x = valley(".#w./....;1");
        for (int bad : new int[] {-1, MIN, MAX}) {
            refused("kind " + bad, x, () -> x.source(bad, 0, 0, 1), OUTSIDE);
            refused("parish " + bad, x, () -> x.source(0, bad, 0, 1), OUTSIDE);
            refused("strength " + bad, x, () -> x.source(0, 0, 0, bad), OUTSIDE);
            refused("cell " + bad, x, () -> x.source(0, 0, bad, 1), UNKNOWN);
        }
        refused("kind 5", x, () -> x.source(5, 0, 0, 1), OUTSIDE);
        refused("parish 3", x, () -> x.source(0, 3, 0, 1), OUTSIDE);
        refused("strength 0", x, () -> x.source(0, 0, 0, 0), OUTSIDE);
        refused("strength 10", x, () -> x.source(0, 0, 0, 10), OUTSIDE);
        refused("cell 8", x, () -> x.source(0, 0, 8, 1), UNKNOWN);
        refused("cell 8 and strength 10", x, () -> x.source(0, 0, 8, 10), OUTSIDE);
        refused("a wall", x, () -> x.source(0, 0, 1, 1), STATE);
        refused("water", x, () -> x.source(0, 0, 2, 1), STATE);
        for (int i = 0; i < 6; i++) {
            due("source " + i, x.source(i % 5, i % 3, 0, 9 - i), i);
        }
        refused("the seventh", x, () -> x.source(0, 0, 0, 1), FULL);
        refused("the seventh on a wall", x, () -> x.source(0, 0, 1, 1), STATE);
        due("sources", x.count(2), 6);
        due("all burn", x.count(3), 6);
    }

    private static void promise9About() {
        SmellBorders x = valley("..../....;2");
        x.source(VAT, 2, 6, 7);
        int[] want = {4, 2, 6, 7, 1, 0, 7, 1};
        for (int what = 0; what < want.length; what++) {
            due("about(0, " + what + ")", x.about(0, what), want[what]);
        }
        for (int what : new int[] {-1, 8, 9, 18, MIN, MAX}) {
            refused("about(0, " + what + ")", x, () -> x.about(0, what), OUTSIDE);
            refused("about(1, " + what + ")", x, () -> x.about(1, what), UNKNOWN);
        }
        refused("about(-1, 0)", x, () -> x.about(-1, 0), UNKNOWN);
        refused("about(6, 0)", x, () -> x.about(6, 0), UNKNOWN);
        forces();
        whatSmells();
        spreading();
        spreadingByWind();
    }

    private static void forces() {
        SmellBorders x = valley("..../....;1");
        x.source(CHEESE, 0, 0, 7);
        x.source(PLAIN, 0, 0, 7);
        due("fresh cheese", x.about(0, 6), 7);
        x.hour();
        due("cheese of an hour", x.about(0, 6), 8);
        due("no cheese", x.about(1, 6), 7);
        x.burn(0, false);
        x.hour();
        due("cheese that did not burn", x.about(0, 6), 8);
        due("how long it burnt", x.about(0, 5), 1);
        due("how long the other burnt", x.about(1, 5), 2);
        x.burn(0, true);
        x.frost(true);
        x.hour();
        due("it burns in frost, too", x.about(0, 6), 9);
        x.hour();
        due("9 at most", x.about(0, 6), 9);
        due("strength stays", x.about(0, 3), 7);
        due("it burnt three hours", x.about(0, 5), 3);
    }

    private static void whatSmells() {
        SmellBorders x = valley("..../....;1");
        for (int kind = 0; kind < 5; kind++) {
            x.source(kind, 0, kind, 5);
            due("kind " + kind, x.about(kind, 0), kind);
            due("kind " + kind + " smells", x.about(kind, 7), 1);
        }
        x.hour();
        for (int kind = 0; kind < 5; kind++) {
            due("kind " + kind + " in an odd hour", x.about(kind, 7), kind == JASMINE ? 0 : 1);
        }
        due("jasmine is gone from its cell", x.about(2, 12), 0);
        due("jasmine burns all the same", x.about(2, 4), 1);
        x.frost(true);
        x.hour();
        for (int kind = 0; kind < 5; kind++) {
            due("kind " + kind + " in frost", x.about(kind, 7), kind == VAT ? 1 : 0);
            x.burn(kind, false);
            due("kind " + kind + " that does not burn", x.about(kind, 7), 0);
        }
        smells("a vat that does not burn", x, 4, 0, 0, 0, 0, 0, 0, 0, 0);
        x.frost(false);
        x.burn(2, true);
        due("jasmine in hour 2", x.about(2, 7), 1);
    }

    private static void spreading() {
        SmellBorders x = valley("..../....;2");
        x.source(PLAIN, 0, 0, 5);
        smells("fade 2", x, 0, 5, 3, 1, 0, 3, 1, 0, 0);
        x.source(TANNERY, 0, 0, 5);
        smells("a tannery loses 1 less", x, 1, 5, 4, 3, 2, 4, 3, 2, 1);
        x.source(VAT, 0, 7, 3);
        smells("a vat, too", x, 2, 0, 0, 1, 2, 0, 1, 2, 3);
        SmellBorders walls = valley(".#../....;1");
        walls.source(PLAIN, 0, 0, 9);
        smells("past a wall", walls, 0, 9, 0, 5, 4, 8, 7, 6, 5);
        SmellBorders water = valley(".w../####;1");
        water.source(PLAIN, 0, 0, 6);
        smells("over water", water, 0, 6, 3, 2, 1, 0, 0, 0, 0);
        SmellBorders about = valley(".ww./....;1");
        about.source(PLAIN, 0, 0, 9);
        smells("the way by which most is left", about, 0, 9, 6, 3, 4, 8, 7, 6, 5);
        about.source(TANNERY, 0, 0, 2);
        smells("a tannery with fade 1 loses nothing but into water", about, 1, 2, 0, 0, 2, 2, 2, 2, 2);
    }

    private static void spreadingByWind() {
        SmellBorders x = valley("..../....;2");
        x.source(PLAIN, 0, 1, 5);
        x.source(PLAIN, 0, 5, 5);
        x.wind(RIGHT);
        smells("to the right", x, 0, 2, 5, 4, 3, 0, 3, 2, 1);
        x.wind(LEFT);
        smells("to the left", x, 0, 4, 5, 2, 0, 2, 3, 0, 0);
        x.wind(DOWN);
        smells("down", x, 0, 3, 5, 3, 1, 2, 4, 2, 0);
        smells("down, from below", x, 1, 0, 2, 0, 0, 3, 5, 3, 1);
        x.wind(UP);
        smells("up", x, 0, 3, 5, 3, 1, 0, 2, 0, 0);
        smells("up, from below", x, 1, 2, 4, 2, 0, 3, 5, 3, 1);
        SmellBorders still = valley("...w/####;1");
        still.source(TANNERY, 0, 0, 3);
        still.wind(RIGHT);
        smells("never less than 0; 1 - 1 - 1 + 2 into water", still, 0, 3, 3, 3, 2);
        still.wind(LEFT);
        smells("a tannery by the other wind", still, 0, 3, 2, 1, 0);
    }

    private static void promise10As() {
        SmellBorders x = valley("..../....;1");
        for (int kind = 0; kind < 5; kind++) {
            x.source(kind, 0, 0, 1);
        }
        for (int kind = 0; kind < 5; kind++) {
            for (int as = 0; as < 5; as++) {
                boolean is = as == 0 || as == kind || kind == VAT && as == TANNERY;
                due("as(" + kind + ", " + as + ")", x.as(kind, as), is ? kind : NONE);
            }
        }
        for (int bad : new int[] {-1, 5, MIN, MAX}) {
            refused("as(0, " + bad + ")", x, () -> x.as(0, bad), OUTSIDE);
            refused("as(" + bad + ", 0)", x, () -> x.as(bad, 0), UNKNOWN);
            refused("as(" + bad + ", 5)", x, () -> x.as(bad, 5), UNKNOWN);
        }
    }

    private static void promise11Burn() {
        SmellBorders x = valley("..../....;1");
        x.source(PLAIN, 0, 0, 5);
        due("it burnt at first", x.burn(0, false), 1);
        due("it did not", x.burn(0, false), 0);
        due("about(0, 4)", x.about(0, 4), 0);
        due("nobody's", x.cell(0, 1), NONE);
        due("none burns", x.count(3), 0);
        due("it did not, again", x.burn(0, true), 0);
        due("about(0, 4) again", x.about(0, 4), 1);
        for (int bad : new int[] {-1, 1, 6, MIN, MAX}) {
            refused("burn(" + bad + ")", x, () -> x.burn(bad, false), UNKNOWN);
        }
    }

    private static void promise12Wind() {
        SmellBorders none = new SmellBorders();
        refused("wind without a valley", none, () -> none.wind(0), STATE);
        refused("wrong wind without a valley", none, () -> none.wind(5), OUTSIDE);
        SmellBorders x = valley("..../....;1");
        for (int wind = 1; wind <= 4; wind++) {
            due("wind(" + wind + ")", x.wind(wind), wind - 1);
            due("count(4)", x.count(4), wind);
        }
        due("wind(0)", x.wind(0), 4);
        for (int bad : new int[] {-1, 5, MIN, MAX}) {
            refused("wind(" + bad + ")", x, () -> x.wind(bad), OUTSIDE);
        }
    }

    private static void promise13Frost() {
        SmellBorders none = new SmellBorders();
        refused("frost without a valley", none, () -> none.frost(true), STATE);
        SmellBorders x = valley("..../....;1");
        due("no frost at first", x.frost(true), 0);
        due("count(5)", x.count(5), 1);
        due("frost", x.frost(false), 1);
        due("no frost", x.frost(false), 0);
        due("count(5) again", x.count(5), 0);
    }

    private static void promise14People() {
        SmellBorders none = new SmellBorders();
        refused("people without a valley", none, () -> none.people(0, 1), UNKNOWN);
        SmellBorders x = valley(".#w./....;1");
        due("people", x.people(0, 9), 0);
        due("people on water", x.people(2, 4), 0);
        due("how many did", x.people(0, 0), 9);
        due("cell(0, 3)", x.cell(0, 3), 0);
        due("cell(2, 3)", x.cell(2, 3), 4);
        refused("on a wall", x, () -> x.people(1, 0), STATE);
        refused("10 on a wall", x, () -> x.people(1, 10), OUTSIDE);
        for (int bad : new int[] {-1, 10, MIN, MAX}) {
            refused("people(0, " + bad + ")", x, () -> x.people(0, bad), OUTSIDE);
            refused("people(8, " + bad + ")", x, () -> x.people(8, bad), UNKNOWN);
        }
        refused("people(-1, 0)", x, () -> x.people(-1, 0), UNKNOWN);
    }

    private static void promise15Dusk() {
        SmellBorders none = new SmellBorders();
        refused("dusk without a valley", none, none::dusk, STATE);
        SmellBorders x = valley("..../....;3");
        x.source(PLAIN, 0, 0, 1);
        x.source(PLAIN, 1, 1, 1);
        x.people(0, 9);
        x.people(1, 4);
        x.people(2, 3);
        x.people(3, 3);
        x.people(7, 1);
        // Half of the 7 who live on nobody's is 3, for each parish.
        due("dusk", x.dusk(), 9 + 4 + 3 * 3);
        due("taxes of 0", x.count(7), 12);
        due("taxes of 1", x.count(8), 7);
        due("taxes of 2", x.count(9), 3);
        x.frost(true);
        due("dusk in frost", x.dusk(), 3 * 10);
        due("taxes of 0 then", x.count(7), 22);
        due("taxes of 2 then", x.count(9), 13);
        due("dusk ends no hour", x.count(6), 0);
    }

    private static void promise16Hour() {
        SmellBorders none = new SmellBorders();
        refused("hour without a valley", none, none::hour, STATE);
        SmellBorders x = valley("..../....;1");
        x.source(PLAIN, 0, 0, 1);
        x.source(JASMINE, 0, 0, 1);
        x.burn(0, false);
        due("hour", x.hour(), 1);
        due("hour again", x.hour(), 2);
        due("it did not burn", x.about(0, 5), 0);
        due("jasmine burnt in both", x.about(1, 5), 2);
        due("count(6)", x.count(6), 2);
    }

    private static void promise17Weakest() {
        SmellBorders none = new SmellBorders();
        refused("weakest without a valley", none, () -> none.weakest(0, 0, 0), UNKNOWN);
        SmellBorders x = valley("..../....;1");
        due("nobody's: strength", x.weakest(5, 2, 0), 1);
        due("nobody's: on it", x.weakest(5, 2, 1), 5);
        x.source(PLAIN, 0, 0, 4);
        due("its already", x.weakest(0, 0, 0), 0);
        due("its already, no cell", x.weakest(0, 0, 1), NONE);
        due("more than 4", x.weakest(0, 1, 0), 5);
        due("on the cell itself", x.weakest(0, 1, 1), 0);
        x.wind(RIGHT);
        // Nothing is lost to the right, so that 5 on cell 0 does for cell 2.
        due("by the wind", x.weakest(2, 1, 0), 5);
        due("of like ones the least", x.weakest(2, 1, 1), 0);
        x.frost(true);
        due("nothing smells in frost", x.weakest(2, 1, 0), NONE);
        due("nothing smells in frost, no cell", x.weakest(2, 1, 1), NONE);
        x.frost(false);
        for (int bad : new int[] {-1, MIN, MAX}) {
            refused("weakest(" + bad + ")", x, () -> x.weakest(bad, 3, 2), UNKNOWN);
            refused("weakest of parish " + bad, x, () -> x.weakest(0, bad, 0), OUTSIDE);
            refused("weakest what " + bad, x, () -> x.weakest(0, 0, bad), OUTSIDE);
        }
        refused("weakest(8)", x, () -> x.weakest(8, 0, 0), UNKNOWN);
        refused("weakest of parish 3", x, () -> x.weakest(0, 3, 0), OUTSIDE);
        refused("weakest what 2", x, () -> x.weakest(0, 0, 2), OUTSIDE);
        weakestEdges();
    }

    private static void weakestEdges() {
        SmellBorders x = valley(".w#./####;1");
        due("water: strength", x.weakest(1, 0, 0), 4);
        due("water: from the open cell", x.weakest(1, 0, 1), 0);
        due("a wall is nobody's for ever", x.weakest(2, 0, 0), NONE);
        x.source(PLAIN, 1, 3, 8);
        due("8 is beaten by 9", x.weakest(3, 0, 0), 9);
        x.source(PLAIN, 1, 3, 9);
        due("9 can't be beaten", x.weakest(3, 0, 0), NONE);
        due("9 can't be beaten, no cell", x.weakest(3, 0, 1), NONE);
        for (int i = 2; i < 6; i++) {
            x.source(PLAIN, 2, 0, 1);
        }
        due("one more than six, as it would be", x.weakest(0, 0, 0), 2);
    }

    private static void promise18Walls() {
        SmellBorders none = new SmellBorders();
        refused("walls without a valley", none, () -> none.walls(0, 0, 0), UNKNOWN);
        SmellBorders x = valley("..../....;1");
        x.source(PLAIN, 0, 0, 9);
        due("around the corner", x.walls(3, 0, 0), 2);
        // 2 and 7, 2 and 6 would do; 1 and 4 have the least bits.
        due("which", x.walls(3, 0, 1), 1 << 1 | 1 << 4);
        due("its own cell", x.walls(0, 0, 0), NONE);
        due("its own cell, which", x.walls(0, 0, 1), NONE);
        due("not its at all", x.walls(3, 1, 0), 0);
        due("not its at all, which", x.walls(3, 1, 1), 0);
        x.source(PLAIN, 0, 4, 1);
        x.burn(1, false);
        due("not with a source on it, burning or not", x.walls(3, 0, 1), 1 << 1 | 1 << 5);
        due("beside it", x.walls(1, 0, 1), NONE);
        for (int bad : new int[] {-1, MIN, MAX}) {
            refused("walls(" + bad + ")", x, () -> x.walls(bad, 3, 2), UNKNOWN);
            refused("walls of parish " + bad, x, () -> x.walls(0, bad, 0), OUTSIDE);
            refused("walls what " + bad, x, () -> x.walls(0, 0, bad), OUTSIDE);
        }
        refused("walls(8)", x, () -> x.walls(8, 0, 0), UNKNOWN);
        refused("walls of parish 3", x, () -> x.walls(0, 3, 0), OUTSIDE);
        refused("walls what 2", x, () -> x.walls(0, 0, 2), OUTSIDE);
        due("done so far", x.count(14), 8);
        wallsByAnother();
        wallsInWater();
        wallsInTheCorner();
        wallsTwentyTimes();
    }

    private static void wallsByAnother() {
        SmellBorders x = valley("..../####;1");
        x.source(PLAIN, 0, 0, 9);
        x.source(PLAIN, 1, 3, 5);
        // Cell 2 has 7 of 0 and 4 of 1; with a wall at 1 it is 1's.
        due("another's then", x.walls(2, 0, 1), 1 << 1);
        SmellBorders partly = valley("..../..##;1");
        partly.source(PLAIN, 0, 1, 1);
        partly.source(PLAIN, 0, 3, 9);
        partly.source(PLAIN, 1, 4, 6);
        // Cell 1 has 7 of 0 by cell 2, 4 of 1 by 0 or 5: a wall at 2 does, though walls on all three would not.
        due("more walls would cut off the other, too", partly.walls(1, 0, 0), 1);
        due("more walls would cut off the other, too: which", partly.walls(1, 0, 1), 1 << 2);
        SmellBorders longer = valley("..../....;1");
        longer.source(PLAIN, 0, 0, 9);
        longer.source(PLAIN, 0, 4, 1);
        longer.source(PLAIN, 0, 5, 1);
        longer.source(PLAIN, 0, 6, 1);
        longer.source(PLAIN, 1, 3, 7);
        longer.source(PLAIN, 1, 7, 1);
        // Cell 2: 7 of 0 by cell 1, 5 by the row below; 6 of 1. A wall at 1 makes it 1's.
        due("a wall by which another is more", longer.walls(2, 0, 1), 1 << 1);
    }

    private static void wallsInWater() {
        SmellBorders x = valley(".w../####;1");
        x.source(PLAIN, 0, 0, 9);
        due("water may become a wall", x.walls(3, 0, 1), 1 << 1);
        due("a wall is nobody's", x.walls(5, 0, 0), 0);
    }

    private static void wallsInTheCorner() {
        SmellBorders x = valley("..##/..##;1");
        x.source(PLAIN, 0, 1, 9);
        due("the first cell, too", x.walls(4, 0, 1), 1 << 0 | 1 << 5);
        SmellBorders held = valley("..../####;1");
        held.source(PLAIN, 1, 1, 1);
        held.source(PLAIN, 0, 0, 9);
        due("another parish's source is in the way of walls", held.walls(2, 0, 0), NONE);
        due("a wall where no source is", held.walls(3, 0, 1), 1 << 2);
    }

    private static void wallsTwentyTimes() {
        SmellBorders x = valley("..../....;1");
        for (int i = 0; i < 20; i++) {
            due("walls " + i, x.walls(0, 0, 0), 0);
        }
        refused("walls for the 21st time", x, () -> x.walls(0, 0, 0), STATE);
        refused("walls for the 21st time, what", x, () -> x.walls(0, 0, 2), OUTSIDE);
        refused("walls for the 21st time, cell", x, () -> x.walls(8, 0, 0), UNKNOWN);
        due("count(14)", x.count(14), 20);
        write(x, "..../....;1").valley();
        refused("another valley takes none of them back", x, () -> x.walls(0, 0, 0), STATE);
    }

    private static void promise19Hold() {
        SmellBorders none = new SmellBorders();
        refused("hold without a valley", none, () -> none.hold(0, 0), UNKNOWN);
        SmellBorders x = valley("..../####;1");
        x.source(PLAIN, 0, 0, 7);
        x.source(CHEESE, 1, 2, 2);
        // Cell 0 has 7 of 0; the cheese leaves 0 1 2 .. 7 there in hours 0, 1, .. and never more.
        due("like ones", x.hold(0, 0), 24);
        // Cell 1 has 6 of 0, and of the cheese 1 in hour 0, 7 in hour 6.
        due("until the cheese is ripe", x.hold(1, 0), 6);
        due("not yet", x.hold(1, 1), 0);
        due("no hour has ended", x.count(6), 0);
        due("the cheese is as it was", x.about(1, 5), 0);
        x.hour();
        due("an hour less", x.hold(1, 0), 5);
        x.burn(1, false);
        due("no cheese burns", x.hold(1, 0), 24);
        x.source(JASMINE, 2, 3, 9);
        due("jasmine in an odd hour", x.hold(3, 2), 0);
        due("until jasmine comes", x.hold(3, 0), 1);
        x.hour();
        due("jasmine in an even hour", x.hold(3, 2), 1);
        for (int bad : new int[] {-1, MIN, MAX}) {
            refused("hold(" + bad + ")", x, () -> x.hold(bad, 3), UNKNOWN);
            refused("hold of " + bad, x, () -> x.hold(0, bad), OUTSIDE);
        }
        refused("hold(8)", x, () -> x.hold(8, 0), UNKNOWN);
        refused("hold of 3", x, () -> x.hold(0, 3), OUTSIDE);
        due("of a wall", x.hold(5, 0), 0);
        x.frost(true);
        due("frost goes on", x.hold(0, 0), 0);
    }

    private static void promise20Nose() {
        SmellBorders none = new SmellBorders();
        refused("nose without a valley", none, () -> none.nose(0, 0), UNKNOWN);
        SmellBorders x = valley("..#./....;1");
        for (int bad : new int[] {-2, 3, MIN, MAX}) {
            refused("nose(0, " + bad + ")", x, () -> x.nose(0, bad), OUTSIDE);
            refused("nose(" + bad + ", 3)", x, () -> x.nose(bad == 3 ? 8 : bad, 3), UNKNOWN);
        }
        refused("nose(-1, 0)", x, () -> x.nose(-1, 0), UNKNOWN);
        for (int i = 1; i <= 8; i++) {
            due("nose " + i, x.nose(2, i % 4 - 1), i);
        }
        refused("the ninth", x, () -> x.nose(0, 0), FULL);
        refused("the ninth of parish 3", x, () -> x.nose(0, 3), OUTSIDE);
        due("count(11)", x.count(11), 8);
    }

    private static void promise21Forget() {
        SmellBorders x = valley("..../....;1");
        x.nose(0, 0);
        x.nose(0, 1);
        due("none can be both", x.unknown(0), 0);
        due("forget", x.forget(), 2);
        due("forget again", x.forget(), 0);
        due("count(11)", x.count(11), 0);
        due("all may be", x.unknown(0), 216);
        due("nose", x.nose(0, 0), 1);
    }

    private static void promise22Unknown() {
        SmellBorders none = new SmellBorders();
        refused("unknown without a valley", none, () -> none.unknown(0), STATE);
        refused("unknown what, without a valley", none, () -> none.unknown(2), OUTSIDE);
        SmellBorders x = valley("#.../####;3");
        due("all: 3 cells, 3 parishes, 9 strengths", x.unknown(0), 81);
        due("the least is on cell 1", x.unknown(1), 27);
        x.nose(2, 1);
        // On 2 any of 9; on 1 or 3 above 3: 6 each.
        due("cell 2 is 1's", x.unknown(0), 21);
        due("the least: cell 1, parish 1, strength 4", x.unknown(1), 27 + 9 + 3);
        x.nose(1, NONE);
        // On 2 at most 3; on 3 above 3 and at most 6.
        due("cell 1 is nobody's", x.unknown(0), 6);
        due("the least: cell 2, strength 1", x.unknown(1), 54 + 9);
        x.source(PLAIN, 2, 2, 2);
        // More than 2 on cell 2, but cell 1 stays nobody's: 3 on 2; on 3 more than 5 and at most 6.
        due("more than it is known", x.unknown(0), 2);
        due("the least: cell 2, strength 3", x.unknown(1), 54 + 9 + 2);
        x.frost(true);
        due("in frost nothing smells", x.unknown(0), 0);
        due("no least", x.unknown(1), NONE);
        x.forget();
        due("in frost all are as if none were", x.unknown(0), 81);
        for (int bad : new int[] {-1, 2, MIN, MAX}) {
            refused("unknown(" + bad + ")", x, () -> x.unknown(bad), OUTSIDE);
        }
        due("done so far", x.count(15), 11);
        SmellBorders corner = valley(".w##/.###;1");
        corner.nose(1, 0);
        // On 0 above 3: 6; on 4, by cell 0, above 4: 5.
        due("by the first cell", corner.unknown(0), 11);
        askedThirtyTimes();
    }

    private static void askedThirtyTimes() {
        SmellBorders x = valley("..../....;1");
        for (int i = 0; i < 15; i++) {
            due("unknown " + i, x.unknown(0), 216);
            due("sniff " + i, x.sniff() >= 0 ? 1 : 0, 1);
        }
        refused("unknown for the 31st time", x, () -> x.unknown(0), STATE);
        refused("sniff for the 31st time", x, x::sniff, STATE);
        refused("unknown what, for the 31st time", x, () -> x.unknown(2), OUTSIDE);
        due("count(15)", x.count(15), 30);
        write(x, "..../....;1").valley();
        refused("another valley takes none of them back", x, () -> x.unknown(0), STATE);
    }

    private static void promise23Sniff() {
        SmellBorders none = new SmellBorders();
        refused("sniff without a valley", none, none::sniff, STATE);
        SmellBorders x = valley("#.../####;3");
        // Of each parish 9 + 6 + 3 are smelt in 1, so 27 leave it nobody's; in 2 are 6 + 9 + 6, so 21 at worst.
        due("where to sniff", x.sniff(), 2);
        due("sniff is no nose", x.count(11), 0);
        x.nose(1, 0);
        // Left: 9 on 1, 6 on 2, 3 on 3, all of 0. At 2: 0's 6 + 6 + 3, nobody's 3; at 3: 0's 3 + 6 + 3, nobody's 6.
        due("the next", x.sniff(), 3);
        x.nose(1, 1);
        due("no such sources", x.sniff(), NONE);
        x.forget();
        x.frost(true);
        due("of like ones the least, a wall or not", x.sniff(), 0);
        due("done so far", x.count(15), 4);
        SmellBorders open = valley("..../....;1");
        open.frost(true);
        due("all 216 are left wherever", open.sniff(), 0);
        due("all cells are alike by turns, of like ones the least", valley("#..#/####;3").sniff(), 1);
    }

    private static void promise24Days() {
        SmellBorders none = new SmellBorders();
        refused("days without a valley", none, () -> none.days(1, 0, 0), STATE);
        refused("days without a valley, hours", none, () -> none.days(0, 0, 0), OUTSIDE);
        SmellBorders x = valley("..../####;1");
        due("the seed after 12345 and the next", x.days(1, 0, 1), 1406932606);
        due("two hours", x.days(2, 0, 1), 1449466924);
        due("the greatest seed", x.days(1, MAX, 1), (int) (secondSeed(MAX)));
        for (int bad : new int[] {0, 61, -1, MIN, MAX}) {
            refused("days(" + bad + ", 0, 0)", x, () -> x.days(bad, 0, 0), OUTSIDE);
        }
        refused("days(1, -1, 0)", x, () -> x.days(1, -1, 0), OUTSIDE);
        refused("days(1, MIN, 0)", x, () -> x.days(1, MIN, 0), OUTSIDE);
        refused("days(1, 0, 2)", x, () -> x.days(1, 0, 2), OUTSIDE);
        refused("days(1, 0, -1)", x, () -> x.days(1, 0, -1), OUTSIDE);
        bordersOfDays();
    }

    private static long secondSeed(long seed) {
        long next = (1103515245L * seed + 12345) % (1L << 31);
        return (1103515245L * next + 12345) % (1L << 31);
    }

    private static SmellBorders fourParties() {
        SmellBorders x = valley("..../.w..;1");
        x.source(VAT, 0, 0, 3);
        x.source(CHEESE, 1, 3, 2);
        x.source(JASMINE, 2, 6, 9);
        x.source(PLAIN, 1, 4, 4);
        x.hour();
        x.wind(UP);
        x.frost(true);
        return x;
    }

    private static void bordersOfDays() {
        SmellBorders x = fourParties();
        SmellBorders lived = fourParties();
        long seed = 77;
        int borders = 0;
        for (int hour = 0; hour < 60; hour++) {
            seed = (1103515245L * seed + 12345) % (1L << 31);
            lived.wind((int) (seed / 65536 % 5));
            seed = (1103515245L * seed + 12345) % (1L << 31);
            lived.frost(seed / 65536 % 6 == 0);
            borders += lived.borders();
            lived.hour();
        }
        long before = x.digest();
        due("there are borders in 60 hours", borders > 0 ? 1 : 0, 1);
        due("borders of 60 hours", x.days(60, 77, 0), borders);
        due("the seed of 60 hours", x.days(60, 77, 1), seed);
        due("they only would be", x.digest(), before);
    }

    private static void promise25Image() {
        SmellBorders none = new SmellBorders();
        refused("image without a valley", none, none::image, STATE);
        SmellBorders x = valley("..../....;1");
        due("image", x.image(), 0);
        x.hour();
        x.hour();
        due("the latest", x.image(), 2);
        x.hour();
        due("restored to the latest", x.restore(), 2);
    }

    private static void promise26Restore() {
        SmellBorders x = valley("..../....;1");
        refused("restore without an image", x, x::restore, STATE);
        x.source(CHEESE, 0, 0, 3);
        x.source(PLAIN, 1, 3, 3);
        x.burn(1, false);
        x.wind(DOWN);
        x.hour();
        x.people(0, 8);
        x.dusk();
        x.nose(0, 0);
        x.nose(7, 1);
        int unknown = x.unknown(0);
        x.image();
        long before = x.digest();
        x.source(VAT, 2, 5, 9);
        x.burn(0, false);
        x.burn(1, true);
        x.wind(UP);
        x.frost(true);
        x.hour();
        x.people(0, 1);
        x.people(5, 9);
        x.dusk();
        x.forget();
        x.nose(7, 2);
        due("restore", x.restore(), 1);
        due("all is as it was", x.digest(), before);
        due("those that came since are gone", x.about(2, 0), UNKNOWN);
        due("noses are back: how many", x.count(11), 2);
        due("noses are back: which", x.unknown(0), unknown);
        due("some fit them", unknown > 0 ? 1 : 0, 1);
        restoredAgain(x);
    }

    private static void restoredAgain(SmellBorders x) {
        due("the next source takes the number", x.source(PLAIN, 2, 6, 4), 2);
        due("it burns, new", x.about(2, 5), 0);
        x.letter('.');
        x.walls(0, 0, 0);
        due("restore again", x.restore(), 1);
        due("sources again", x.count(2), 2);
        due("the page is not kept", x.count(12), 1);
        due("what was done stays done", x.count(14), 1);
        due("what was asked stays asked", x.count(15), 2);
        x.blank();
        write(x, "..../....;1").valley();
        refused("another valley since", x, x::restore, STATE);
        due("an image of it", x.image(), 0);
        due("is restored", x.restore(), 0);
    }

    private static void promise27Count() {
        SmellBorders x = valley(".#w./....;3");
        x.source(PLAIN, 0, 0, 4);
        x.source(JASMINE, 1, 7, 1);
        x.source(JASMINE, 2, 6, 1);
        x.burn(2, false);
        x.people(0, 5);
        x.dusk();
        x.hour();
        x.wind(LEFT);
        x.nose(4, 0);
        x.letter('x');
        x.walls(0, 0, 0);
        x.unknown(0);
        x.sniff();
        int[] want = {6, 3, 3, 2, 2, 0, 1, 5, 0, 0, 2, 1, 1, 1, 1, 2};
        for (int what = 0; what < want.length; what++) {
            due("count(" + what + ")", x.count(what), want[what]);
        }
        for (int bad : new int[] {-1, 16, MIN, MAX}) {
            refused("count(" + bad + ")", x, () -> x.count(bad), OUTSIDE);
        }
    }

    private static long digestByCalls(SmellBorders x) {
        long h = 811;
        if (x.count(1) > 0) {
            for (int cell = 0; cell < 8; cell++) {
                for (int what = 0; what < 5; what++) {
                    h = 31 * h + x.cell(cell, what);
                }
                for (int parish = 0; parish < 3; parish++) {
                    h = 31 * h + x.hold(cell, parish);
                }
            }
        }
        for (int source = 0; source < x.count(2); source++) {
            for (int what = 0; what < 8; what++) {
                h = 31 * h + x.about(source, what);
            }
        }
        return 31 * h + x.borders();
    }

    private static long digestCounts(long before, SmellBorders x) {
        long h = before;
        for (int what = 0; what < 16; what++) {
            h = 31 * h + x.count(what);
        }
        return h;
    }

    private static void promise28Digest() {
        SmellBorders x = new SmellBorders();
        due("digest of nothing", x.digest(), digestCounts(digestByCalls(x), x));
        write(x, "#.");
        due("digest of letters", x.digest(), digestCounts((digestByCalls(x) * 31 + '#') * 31 + '.', x));
        x.blank();
        write(x, "..#./.w..;1").valley();
        due("digest of a valley", x.digest(), digestCounts(digestByCalls(x), x));
        x.source(CHEESE, 2, 0, 2);
        x.source(JASMINE, 1, 7, 9);
        x.source(VAT, 0, 4, 5);
        x.people(3, 7);
        x.wind(UP);
        x.hour();
        x.dusk();
        x.letter('w');
        due("digest of all", x.digest(), digestCounts(digestByCalls(x) * 31 + 'w', x));
        due("digest changes nothing", x.digest(), x.digest());
    }

    public static void main(String[] args) {
        promise1NewObject();
        promise2Letter();
        promise3Blank();
        promise4Fault();
        promise5Valley();
        promise6Cell();
        promise7Borders();
        promise8Source();
        promise9About();
        promise10As();
        promise11Burn();
        promise12Wind();
        promise13Frost();
        promise14People();
        promise15Dusk();
        promise16Hour();
        promise17Weakest();
        promise18Walls();
        promise19Hold();
        promise20Nose();
        promise21Forget();
        promise22Unknown();
        promise23Sniff();
        promise24Days();
        promise25Image();
        promise26Restore();
        promise27Count();
        promise28Digest();
        end();
    }
}
