/** The boundary cases of what would be: WEAKEST, WALLS, HOLD, promises 17 to 19. */
public final class WouldBeEdgesTest extends Sentences {
    /** Sources of parish 0 in two corners, so that cell 5 is reached by three ways. */
    private static SmellBorders twoCorners() {
        SmellBorders x = valley("..../....;1");
        x.source(PLAIN, 0, 0, 9);
        x.source(PLAIN, 0, 3, 9);
        return x;
    }

    private static SmellBorders wallsDone(int times) {
        SmellBorders x = twoCorners();
        for (int i = 0; i < times; i++) {
            x.walls(i % 8, i % 3, i % 2);
        }
        return x;
    }

    private static void weakestIs(String what, SmellBorders x, int cell, int parish, int strength, int on) {
        due(what + ": strength", x.weakest(cell, parish, 0), strength);
        due(what + ": cell", x.weakest(cell, parish, 1), on);
    }

    // ---- promise 17: weakest

    private static void leastStrength() {
        says("Terms", "WEAKEST for a CELL and a PARISH: the least STRENGTH of one more SOURCE of KIND 0 of that PARISH "
            + "by which the CELL would be its");
        SmellBorders x = valley("..../....;1");
        for (int cell = 0; cell < 8; cell++) {
            weakestIs("nobody's " + cell, x, cell, cell % 3, 1, cell);
        }
        x.source(PLAIN, 0, 5, 8);
        weakestIs("like ones are not enough", x, 5, 1, 9, 5);
        x.source(PLAIN, 1, 5, 7);
        weakestIs("what it has there does not help", x, 5, 1, 9, 5);
        SmellBorders water = valley(".ww#/####;2");
        weakestIs("9 - 4 - 4", water, 2, 2, 9, 0);
        weakestIs("5 - 4", water, 1, 2, 5, 0);
    }

    private static void weakestOfKindNothing() {
        says("Terms", "the least STRENGTH of one more SOURCE of KIND 0 of that PARISH by which the CELL would be its");
        SmellBorders x = valley(".w##/####;1");
        weakestIs("it loses as kind 0 does", x, 1, 0, 4, 0);
        x.wind(RIGHT);
        weakestIs("with the wind", x, 1, 0, 3, 0);
        x.wind(LEFT);
        weakestIs("against the wind", x, 1, 0, 5, 0);
        x.hour();
        weakestIs("in an odd hour, too", x, 1, 0, 5, 0);
        x.frost(true);
        weakestIs("not in frost", x, 1, 0, NONE, NONE);
        weakestIs("not in frost on its own cell", x, 0, 0, NONE, NONE);
    }

    private static void leastCell() {
        says("Terms", "the CELL on which (open): of like ones the least.");
        SmellBorders x = valley(".w.#/#.##;1");
        weakestIs("from 0, 2 and 5 alike", x, 1, 0, 4, 0);
        x.wind(LEFT);
        weakestIs("from 2 by the wind", x, 1, 0, 3, 2);
        x.wind(UP);
        weakestIs("from 5 by the wind", x, 1, 0, 3, 5);
        SmellBorders drift = valley("..../....;1");
        drift.wind(RIGHT);
        weakestIs("1 anywhere in the row", drift, 7, 0, 1, 4);
        drift.wind(LEFT);
        weakestIs("1 on the cell or right of it", drift, 6, 0, 1, 6);
    }

    private static void itsAlready() {
        says(17, "what = 0 STRENGTH (0: it is its already), 1 on which CELL (NONE: it is its already)");
        SmellBorders x = valley("..../####;1");
        x.source(PLAIN, 2, 0, 3);
        weakestIs("its source's cell", x, 0, 2, 0, NONE);
        weakestIs("the last cell that is its", x, 2, 2, 0, NONE);
        weakestIs("the first that is not", x, 3, 2, 1, 3);
        weakestIs("another's", x, 2, 1, 2, 2);
        SmellBorders vat = valley("..../####;1");
        vat.source(VAT, 0, 0, 1);
        vat.frost(true);
        weakestIs("its already in frost", vat, 3, 0, 0, NONE);
    }

    private static void noneWeakest() {
        says(17, "NONE: there is none.");
        SmellBorders x = valley(".ww#/####;3");
        weakestIs("9 - 5 - 5", x, 2, 0, NONE, NONE);
        weakestIs("a wall", x, 3, 0, NONE, NONE);
        x.source(PLAIN, 1, 0, 9);
        weakestIs("9 is there", x, 0, 0, NONE, NONE);
        weakestIs("no open cell", valley("wwww/####;1"), 0, 0, NONE, NONE);
    }

    private static void oneMoreThanSix() {
        says("Terms", "the least STRENGTH of one more SOURCE of KIND 0 of that PARISH by which the CELL would be its");
        SmellBorders x = valley("..../####;1");
        for (int i = 0; i < 6; i++) {
            x.source(PLAIN, 0, 0, 1);
        }
        weakestIs("behind six", x, 0, 1, 2, 0);
        weakestIs("behind six, elsewhere", x, 3, 1, 1, 3);
        due("it only would be", x.count(2), 6);
    }

    private static void weakestChangesNothing() {
        says(17, "WEAKEST");
        SmellBorders x = busy();
        x.weakest(5, 2, 0);
        x.weakest(0, 1, 1);
        alike("behind weakest()", x, busy());
    }

    private static void refusedWeakest() {
        says(17, "UNKNOWN: cell; OUTSIDE: parish, what.");
        for (int cell : beyond(0, 7)) {
            refused("weakest(" + cell + ", 0, 0)", Sentences::busy, x -> x.weakest(cell, 0, 0), UNKNOWN);
            refused("of several the first", Sentences::busy, x -> x.weakest(cell, 3, 2), UNKNOWN);
        }
        for (int parish : beyond(0, 2)) {
            refused("weakest(0, " + parish + ", 0)", Sentences::busy, x -> x.weakest(0, parish, 0), OUTSIDE);
            refused("weakest(1, " + parish + ", 1)", Sentences::busy, x -> x.weakest(1, parish, 1), OUTSIDE);
            refused("no VALLEY, parish " + parish, SmellBorders::new, x -> x.weakest(0, parish, 0), UNKNOWN);
        }
        for (int what : beyond(0, 1)) {
            refused("weakest(0, 0, " + what + ")", Sentences::busy, x -> x.weakest(0, 0, what), OUTSIDE);
            refused("no VALLEY, what " + what, SmellBorders::new, x -> x.weakest(0, 0, what), UNKNOWN);
        }
        for (int cell = 0; cell < 8; cell++) {
            due("no VALLEY, cell " + cell, new SmellBorders().weakest(cell, 0, 0), UNKNOWN);
        }
        due("the last cell, parish, what", valley("..../....;1").weakest(7, 2, 1), 7);
    }

    // ---- promise 18: walls

    private static void wallsAre(String what, SmellBorders x, int cell, int parish, int many, int bits) {
        due(what + ": how few", x.walls(cell, parish, 0), many);
        due(what + ": which", x.walls(cell, parish, 1), bits);
    }

    private static void noWallsAtAll() {
        says("Terms", "WALLS: how few more CELLS must be WALLS");
        wallsAre("nobody's", valley("..../....;1"), 0, 0, 0, 0);
        wallsAre("a wall", valley("#.../....;1"), 0, 0, 0, 0);
        SmellBorders x = twoCorners();
        wallsAre("another's", x, 0, 1, 0, 0);
        x.frost(true);
        wallsAre("its but for the frost", x, 0, 0, 0, 0);
    }

    private static void wallsByCells() {
        says("Terms", "WALLS: how few more CELLS must be WALLS");
        wallsAre("three ways", twoCorners(), 5, 0, 3, 1 << 1 | 1 << 4 | 1 << 6);
        SmellBorders first = valley("..##/.###;1");
        first.source(PLAIN, 0, 1, 9);
        wallsAre("the first bit", first, 4, 0, 1, 1);
        SmellBorders last = valley("###./##..;1");
        last.source(PLAIN, 0, 6, 9);
        wallsAre("the last bit", last, 3, 0, 1, 1 << 7);
        SmellBorders water = valley(".ww./####;1");
        water.source(VAT, 0, 0, 9);
        wallsAre("water may be a wall", water, 3, 0, 1, 1 << 1);
    }

    private static void noWallOnSources() {
        says("Terms", "(none with a SOURCE on it, BURNING or not, nor the CELL itself)");
        SmellBorders x = valley("..../####;1");
        x.source(PLAIN, 0, 0, 9);
        wallsAre("on the next one", x, 3, 0, 1, 1 << 1);
        x.source(PLAIN, 0, 1, 1);
        wallsAre("a source of its own is on it", x, 3, 0, 1, 1 << 2);
        x.burn(1, false);
        wallsAre("it does not burn", x, 3, 0, 1, 1 << 2);
        x.source(PLAIN, 2, 2, 1);
        wallsAre("another's, too", x, 3, 0, NONE, NONE);
        x.burn(2, false);
        wallsAre("another's that does not burn", x, 3, 0, NONE, NONE);
        wallsAre("the cell itself", x, 1, 0, NONE, NONE);
        SmellBorders first = valley("..../####;1");
        first.source(PLAIN, 1, 2, 1);
        first.burn(0, false);
        first.source(PLAIN, 0, 1, 9);
        wallsAre("the first source of all is on it", first, 3, 0, NONE, NONE);
    }

    private static void leastBits() {
        says("Terms", "which: of like ones the least bits.");
        SmellBorders x = valley("..../....;1");
        x.source(PLAIN, 0, 7, 9);
        wallsAre("1 and 4, 1 and 5 and others would do", x, 0, 0, 2, 1 << 1 | 1 << 4);
        wallsAre("from the other side", x, 3, 0, NONE, NONE);
        SmellBorders row = valley("####/....;1");
        row.source(PLAIN, 0, 7, 9);
        wallsAre("5 or 6", row, 4, 0, 1, 1 << 5);
        SmellBorders fewer = valley("...#/....;1");
        fewer.source(PLAIN, 0, 0, 9);
        wallsAre("one of more bits is fewer than 1 and 4", fewer, 7, 0, 1, 1 << 6);
    }

    private static void notByAll() {
        says(18, "NONE: not by all.");
        SmellBorders x = twoCorners();
        wallsAre("its own source's cell", x, 0, 0, NONE, NONE);
        wallsAre("beside it", x, 1, 0, NONE, NONE);
        due("they are counted", x.count(14), 4);
        SmellBorders tied = twoCorners();
        tied.source(PLAIN, 1, 0, 9);
        wallsAre("like ones are its", tied, 0, 0, NONE, NONE);
        wallsAre("like ones are not the other's", tied, 0, 1, 0, 0);
    }

    private static void wallsByWhichItIsAnothers() {
        says("Terms", "so that it is not that PARISH's");
        SmellBorders x = valley("..../####;1");
        x.source(PLAIN, 0, 0, 9);
        x.source(PLAIN, 1, 3, 2);
        wallsAre("1's then", x, 2, 0, 1, 1 << 1);
        SmellBorders partly = valley("..../..##;1");
        partly.source(PLAIN, 0, 1, 1);
        partly.source(PLAIN, 0, 3, 9);
        partly.source(PLAIN, 1, 4, 6);
        wallsAre("one does, though all three would not", partly, 1, 0, 1, 1 << 2);
    }

    private static void wallsAreNotBuilt() {
        says(18, "WALLS");
        SmellBorders x = busy();
        SmellBorders twin = busy();
        x.walls(4, 0, 1);
        twin.walls(1, 2, 0);
        due("they only would be", x.cell(4, 0), 0);
        alike("nothing but how often it was done", x, twin);
    }

    private static void twentyTimes() {
        says(18, "STATE: walls() was done 20 times.");
        for (int times = 0; times < 20; times++) {
            due("done " + times + " times", wallsDone(times).walls(5, 0, 0), 3);
        }
        due("count(14)", wallsDone(20).count(14), 20);
        due("count(14) is 20 at most", wallsDone(25).count(14), 20);
        Made done = () -> wallsDone(20);
        for (int what = 0; what <= 1; what++) {
            int of = what;
            refused("done 20 times", done, x -> x.walls(5, 0, of), STATE);
            refused("done 20 times, none needed", done, x -> x.walls(5, 2, of), STATE);
        }
    }

    private static void refusedWallsAreNotDone() {
        says(18, "STATE: walls() was done 20 times.");
        SmellBorders x = wallsDone(19);
        x.walls(8, 0, 0);
        x.walls(0, 3, 0);
        x.walls(0, 0, 2);
        due("refused ones do not count", x.count(14), 19);
        due("the 20th", x.walls(5, 0, 0), 3);
        due("the 21st", x.walls(5, 0, 0), STATE);
        due("other calls go on", x.unknown(0), 216);
        x.image();
        x.restore();
        due("an image gives none back", x.walls(5, 0, 0), STATE);
    }

    private static void refusedWalls() {
        says(18, "UNKNOWN: cell; OUTSIDE: parish, what; STATE");
        Made[] all = {Sentences::busy, () -> wallsDone(20)};
        for (Made made : all) {
            for (int cell : beyond(0, 7)) {
                refused("walls(" + cell + ", 0, 0)", made, x -> x.walls(cell, 0, 0), UNKNOWN);
                refused("of several the first", made, x -> x.walls(cell, 3, 2), UNKNOWN);
            }
            for (int parish : beyond(0, 2)) {
                refused("walls(0, " + parish + ", 0)", made, x -> x.walls(0, parish, 0), OUTSIDE);
            }
            for (int what : beyond(0, 1)) {
                refused("walls(0, 0, " + what + ")", made, x -> x.walls(0, 0, what), OUTSIDE);
            }
        }
        refused("no VALLEY", SmellBorders::new, x -> x.walls(0, 0, 0), UNKNOWN);
        refused("no VALLEY, parish, what", SmellBorders::new, x -> x.walls(7, 3, 2), UNKNOWN);
        due("the last cell, parish, what", valley("..../....;1").walls(7, 2, 1), 0);
    }

    // ---- promise 19: hold

    private static void twentyFourAtMost() {
        says("Terms", "will be the PARISH's without a break (24 at most), all going on as it is.");
        SmellBorders x = valley("..../####;1");
        x.source(PLAIN, 1, 0, 1);
        due("for ever", x.hold(0, 1), 24);
        for (int i = 0; i < 30; i++) {
            x.hour();
        }
        due("for ever, 30 hours on", x.hold(0, 1), 24);
        due("nobody's", x.hold(1, 1), 0);
        due("another's", x.hold(0, 0), 0);
        SmellBorders ripe = valley("..../####;1");
        ripe.source(CHEESE, 2, 0, 9);
        due("9 stays 9", ripe.hold(3, 2), 24);
    }

    private static void thisHourIsTheFirst() {
        says("Terms", "HOLD: how many HOURS from now on, this one the first, a CELL will be the PARISH's");
        SmellBorders x = valley("..../####;1");
        x.source(PLAIN, 0, 0, 8);
        x.source(CHEESE, 1, 0, 1);
        for (int hour = 0; hour <= 9; hour++) {
            due("until the cheese is 9, in hour " + hour, x.hold(0, 0), Math.max(0, 8 - hour));
            due("the cheese's, in hour " + hour, x.hold(0, 1), hour >= 8 ? 24 : 0);
            x.hour();
        }
        SmellBorders spread = valley("..../####;2");
        spread.source(CHEESE, 1, 0, 1);
        due("not yet smelt", spread.hold(3, 1), 0);
        due("smelt in hour 0", spread.hold(0, 1), 24);
    }

    private static void heldByAnyWay() {
        says("Terms", "HOLD: how many HOURS from now on, this one the first, a CELL will be the PARISH's");
        String[] texts = {"..##/.###;1", "...#/####;1", "#.../####;1", "##../###.;1", ".###/..##;1", "####/...#;1",
            "####/#...;1", "###./##..;1"};
        int[] from = {1, 0, 1, 2, 0, 4, 5, 3};
        int[] to = {4, 2, 3, 7, 5, 6, 7, 6};
        for (int cell = 0; cell < 8; cell++) {
            SmellBorders x = valley(texts[cell]);
            x.source(PLAIN, 2, from[cell], 3);
            due("by cell " + cell + " alone", x.hold(to[cell], 2), 24);
        }
    }

    private static void likeOnesHold() {
        says("Terms", "HOLD: how many HOURS from now on, this one the first, a CELL will be the PARISH's");
        SmellBorders x = valley("..../####;1");
        x.source(CHEESE, 1, 0, 1);
        x.source(PLAIN, 0, 0, 9);
        due("until the cheese is 9, too, of the least number", x.hold(0, 0), 8);
        SmellBorders other = valley("..../####;1");
        other.source(PLAIN, 0, 0, 9);
        other.source(CHEESE, 1, 0, 1);
        due("the cheese is never more than 9", other.hold(0, 0), 24);
    }

    private static void withoutABreak() {
        says("Terms", "without a break");
        SmellBorders x = valley("..../####;1");
        x.source(JASMINE, 0, 0, 5);
        x.source(PLAIN, 1, 3, 2);
        due("jasmine in hour 0", x.hold(0, 0), 1);
        due("and not the other", x.hold(2, 1), 0);
        x.hour();
        due("jasmine in hour 1", x.hold(0, 0), 0);
        due("the other in hour 1", x.hold(2, 1), 1);
        due("the other's own cell: 2 of like ones", x.hold(3, 1), 1);
        x.burn(1, false);
        due("nobody's in hour 1", x.hold(3, 1), 0);
    }

    private static void allGoingOn() {
        says("Terms", "all going on as it is.");
        SmellBorders x = valley("..../####;1");
        x.source(CHEESE, 0, 0, 1);
        x.source(VAT, 1, 0, 5);
        x.source(PLAIN, 2, 0, 8);
        x.frost(true);
        due("the vat's, while frost goes on", x.hold(0, 1), 24);
        x.frost(false);
        due("the other's until the cheese is 8, too, as no frost goes on", x.hold(0, 2), 7);
        x.burn(0, false);
        due("what does not burn does not ripen", x.hold(0, 2), 24);
        SmellBorders wind = valley("..../####;3");
        wind.source(PLAIN, 0, 0, 3);
        wind.wind(RIGHT);
        due("the wind goes on", wind.hold(1, 0), 24);
        wind.wind(STILL);
        due("no wind goes on", wind.hold(1, 0), 0);
    }

    private static void holdChangesNothing() {
        says(19, "HOLD.");
        SmellBorders x = busy();
        x.hold(0, 0);
        x.hold(7, 2);
        alike("behind hold()", x, busy());
    }

    private static void refusedHold() {
        says(19, "UNKNOWN: cell; OUTSIDE: parish.");
        for (int cell : beyond(0, 7)) {
            refused("hold(" + cell + ", 0)", Sentences::busy, x -> x.hold(cell, 0), UNKNOWN);
            refused("of several the first: hold(" + cell + ", 3)", Sentences::busy, x -> x.hold(cell, 3), UNKNOWN);
        }
        for (int parish : beyond(0, 2)) {
            refused("hold(0, " + parish + ")", Sentences::busy, x -> x.hold(0, parish), OUTSIDE);
            refused("a wall, hold(1, " + parish + ")", Sentences::busy, x -> x.hold(1, parish), OUTSIDE);
            refused("no VALLEY, hold(0, " + parish + ")", SmellBorders::new, x -> x.hold(0, parish), UNKNOWN);
        }
        refused("nobody's is no parish", () -> valley("..../....;1"), x -> x.hold(0, NONE), OUTSIDE);
        refused("no VALLEY, hold(0, 0)", SmellBorders::new, x -> x.hold(0, 0), UNKNOWN);
        due("the last cell and parish", valley("..../....;1").hold(7, 2), 0);
    }

    public static void main(String[] args) {
        leastStrength();
        weakestOfKindNothing();
        leastCell();
        itsAlready();
        noneWeakest();
        oneMoreThanSix();
        weakestChangesNothing();
        refusedWeakest();
        noWallsAtAll();
        wallsByCells();
        noWallOnSources();
        leastBits();
        notByAll();
        wallsByWhichItIsAnothers();
        wallsAreNotBuilt();
        twentyTimes();
        refusedWallsAreNotDone();
        refusedWalls();
        twentyFourAtMost();
        thisHourIsTheFirst();
        heldByAnyWay();
        likeOnesHold();
        withoutABreak();
        allGoingOn();
        holdChangesNothing();
        refusedHold();
        end(17, 19);
    }
}
