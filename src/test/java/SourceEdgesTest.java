/** The boundary cases of sources, wind, frost, people, dusk, hours: the document's terms for them, promises 8 to 16. */
public final class SourceEdgesTest extends Sentences {
    private static SmellBorders sixSources() {
        SmellBorders x = valley(".#w./....;2");
        for (int i = 0; i < 6; i++) {
            x.source(i % 5, i % 3, 3 + i % 2 * 4, 9 - i);
        }
        return x;
    }

    // ---- terms: sources

    private static void sixAtMost() {
        says("Terms", "SOURCES (6 at most, numbered)");
        SmellBorders x = valley("..../....;1");
        for (int i = 0; i < 6; i++) {
            due("source " + i, x.source(PLAIN, 0, 7, 1), i);
            due("count(2)", x.count(2), i + 1);
        }
        due("the seventh", x.source(PLAIN, 0, 7, 1), FULL);
        due("one that does not burn makes no room", x.burn(0, false), 1);
        due("the seventh again", x.source(PLAIN, 0, 7, 1), FULL);
        due("count(2) then", x.count(2), 6);
    }

    private static void kinds() {
        says("Terms", "are of KINDS: 0 SOURCE, 1 CHEESE, 2 JASMINE, 3 TANNERY, 4 VAT");
        for (int kind = 0; kind <= 4; kind++) {
            SmellBorders x = valley("..../....;1");
            due("kind " + kind, x.source(kind, 0, 0, 1), 0);
            due("about(0, 0) of kind " + kind, x.about(0, 0), kind);
        }
        for (int kind : beyond(0, 4)) {
            refused("kind " + kind, Sentences::busy, x -> x.source(kind, 0, 0, 1), OUTSIDE);
        }
    }

    private static void parishes() {
        says("Terms", "each of a PARISH (0 to 2)");
        for (int parish = 0; parish <= 2; parish++) {
            SmellBorders x = valley("..../....;1");
            due("parish " + parish, x.source(PLAIN, parish, 0, 1), 0);
            due("about(0, 1) of parish " + parish, x.about(0, 1), parish);
            due("cell(0, 1) of parish " + parish, x.cell(0, 1), parish);
        }
        for (int parish : beyond(0, 2)) {
            refused("parish " + parish, Sentences::busy, x -> x.source(0, parish, 0, 1), OUTSIDE);
        }
    }

    private static void openCells() {
        says("Terms", "on an open CELL");
        for (int cell = 0; cell < 8; cell++) {
            int on = cell;
            due("an open cell " + cell, valley("..../....;1").source(0, 0, cell, 1), 0);
            refused("a wall " + cell, () -> valley("####/####;1"), x -> x.source(0, 0, on, 1), STATE);
            refused("water " + cell, () -> valley("wwww/wwww;1"), x -> x.source(0, 0, on, 1), STATE);
        }
        SmellBorders x = valley("..../....;1");
        x.source(PLAIN, 0, 0, 1);
        due("one on which another is", x.source(PLAIN, 0, 0, 1), 1);
    }

    private static void strengths() {
        says("Terms", "of a STRENGTH (1 to 9)");
        for (int strength = 1; strength <= 9; strength++) {
            SmellBorders x = valley("..../....;1");
            due("strength " + strength, x.source(PLAIN, 0, 0, strength), 0);
            due("about(0, 3) of strength " + strength, x.about(0, 3), strength);
            due("about(0, 10) of strength " + strength, x.about(0, 10), strength);
        }
        for (int strength : beyond(1, 9)) {
            refused("strength " + strength, Sentences::busy, x -> x.source(0, 0, 0, strength), OUTSIDE);
        }
    }

    private static void burnsAtFirst() {
        says("Terms", "it BURNS at first");
        SmellBorders x = valley("..../....;1");
        x.frost(true);
        for (int kind = 0; kind <= 4; kind++) {
            x.source(kind, 0, 0, 1);
            due("about(" + kind + ", 4)", x.about(kind, 4), 1);
            due("about(" + kind + ", 5)", x.about(kind, 5), 0);
        }
        due("count(3)", x.count(3), 5);
    }

    // ---- terms: what smells

    private static void smellsIfItBurns() {
        says("Terms", "A SOURCE SMELLS if it BURNS");
        SmellBorders x = valley("..../....;1");
        for (int kind = 0; kind <= 4; kind++) {
            x.source(kind, 0, 0, 3);
            due("it burns, kind " + kind, x.about(kind, 7), 1);
            due("it burns, how much, kind " + kind, x.about(kind, 10), 3);
            x.burn(kind, false);
            due("it does not, kind " + kind, x.about(kind, 7), 0);
            smells("it does not, kind " + kind, x, kind, 0, 0, 0, 0, 0, 0, 0, 0);
        }
        whose("nothing burns", x, NONE, NONE, NONE, NONE, NONE, NONE, NONE, NONE);
    }

    private static void jasmineByHours() {
        says("Terms", "JASMINE just if the number of the HOUR is even");
        SmellBorders x = valley("..../....;1");
        x.source(JASMINE, 0, 0, 3);
        x.source(PLAIN, 1, 7, 3);
        for (int hour = 0; hour <= 5; hour++) {
            due("jasmine in hour " + hour, x.about(0, 7), hour % 2 == 0 ? 1 : 0);
            due("its cell in hour " + hour, x.cell(0, 1), hour % 2 == 0 ? 0 : NONE);
            due("another kind in hour " + hour, x.about(1, 7), 1);
            x.hour();
        }
        SmellBorders late = valley("..../....;1");
        late.hour();
        late.source(JASMINE, 0, 0, 3);
        due("by the number of the hour, not by how long it burnt", late.about(0, 7), 0);
    }

    private static void frostButAVat() {
        says("Terms", "while there is FROST nothing but a VAT");
        SmellBorders x = valley("..../....;1");
        x.frost(true);
        for (int kind = 0; kind <= 4; kind++) {
            x.source(kind, kind % 3, 0, 9);
            due("in frost, kind " + kind, x.about(kind, 7), kind == VAT ? 1 : 0);
            due("in frost, how much, kind " + kind, x.about(kind, 10), kind == VAT ? 9 : 0);
        }
        due("the vat's", x.cell(0, 4), 4);
        x.burn(4, false);
        due("a vat that does not burn", x.about(4, 7), 0);
        due("nobody's then", x.cell(0, 4), NONE);
        x.frost(false);
        due("frost is over", x.cell(0, 4), 0);
    }

    private static void cheeseRipens() {
        says("Terms", "of CHEESE 1 more for each HOUR in which it BURNT, 9 at most");
        SmellBorders x = valley("..../....;1");
        x.source(CHEESE, 0, 0, 1);
        x.source(CHEESE, 1, 0, 8);
        x.source(CHEESE, 2, 0, 9);
        for (int hour = 0; hour <= 12; hour++) {
            due("of 1 in hour " + hour, x.about(0, 6), Math.min(9, 1 + hour));
            due("of 8 in hour " + hour, x.about(1, 6), hour == 0 ? 8 : 9);
            due("of 9 in hour " + hour, x.about(2, 6), 9);
            due("on its cell in hour " + hour, x.about(0, 10), Math.min(9, 1 + hour));
            due("strength stays", x.about(0, 3), 1);
            due("how long it burnt goes on", x.about(0, 5), hour);
            x.hour();
        }
    }

    private static void cheeseOnlyWhileItBurns() {
        says("Terms", "of CHEESE 1 more for each HOUR in which it BURNT, 9 at most");
        SmellBorders x = valley("..../....;1");
        x.source(CHEESE, 0, 0, 3);
        x.burn(0, false);
        x.hour();
        due("it did not burn", x.about(0, 6), 3);
        x.burn(0, true);
        x.frost(true);
        x.hour();
        due("it burnt in frost", x.about(0, 6), 4);
        x.burn(0, false);
        due("its force stays while it does not burn", x.about(0, 6), 4);
        for (int kind : new int[] {PLAIN, JASMINE, TANNERY, VAT}) {
            SmellBorders other = valley("..../....;1");
            other.source(kind, 0, 0, 3);
            other.hour();
            other.hour();
            due("no cheese, kind " + kind, other.about(0, 6), 3);
        }
    }

    // ---- terms: spreading

    private static void noWayIntoWalls() {
        says("Terms", "going from a CELL into one beside it, no WALL");
        SmellBorders x = valley(".#../#...;1");
        x.source(PLAIN, 0, 0, 9);
        smells("shut in", x, 0, 9, 0, 0, 0, 0, 0, 0, 0);
        SmellBorders round = valley(".#../....;1");
        round.source(PLAIN, 0, 0, 9);
        smells("past a wall", round, 0, 9, 0, 5, 4, 8, 7, 6, 5);
    }

    private static void fadesByStep(int fade, int kind, int... want) {
        SmellBorders x = valley("..../####;" + fade);
        x.source(kind, 0, 0, 9);
        smells("FADE " + fade + ", kind " + kind, x, 0, want);
    }

    private static void fades() {
        says("Terms", "it loses FADE (a TANNERY, a VAT 1 less)");
        for (int kind : new int[] {PLAIN, CHEESE, JASMINE}) {
            fadesByStep(1, kind, 9, 8, 7, 6);
            fadesByStep(2, kind, 9, 7, 5, 3);
            fadesByStep(3, kind, 9, 6, 3, 0);
        }
        for (int kind : new int[] {TANNERY, VAT}) {
            fadesByStep(1, kind, 9, 9, 9, 9);
            fadesByStep(2, kind, 9, 8, 7, 6);
            fadesByStep(3, kind, 9, 7, 5, 3);
        }
    }

    /** What a source of 9 with FADE 2 on cell 1 leaves in cells 0, 2 and 5, each one step away. */
    private static void oneStepByWind(int wind, int left, int right, int down) {
        SmellBorders x = valley("..../....;2");
        x.source(PLAIN, 0, 1, 9);
        x.wind(wind);
        due("wind " + wind + ", a step left", x.about(0, 10), left);
        due("wind " + wind + ", a step right", x.about(0, 12), right);
        due("wind " + wind + ", a step down", x.about(0, 15), down);
        SmellBorders up = valley("..../....;2");
        up.source(PLAIN, 0, 5, 9);
        up.wind(wind);
        due("wind " + wind + ", a step up", up.about(0, 11), wind == UP ? 8 : wind == DOWN ? 6 : 7);
    }

    private static void byTheWind() {
        says("Terms", "and 1 less if the WIND blows that way, 1 more if the WIND blows the other way");
        oneStepByWind(STILL, 7, 7, 7);
        oneStepByWind(RIGHT, 6, 8, 7);
        oneStepByWind(LEFT, 8, 6, 7);
        oneStepByWind(DOWN, 7, 7, 8);
        oneStepByWind(UP, 7, 7, 6);
    }

    private static void intoWater() {
        says("Terms", "and 2 more into WATER");
        SmellBorders x = valley(".ww./####;1");
        x.source(PLAIN, 0, 0, 9);
        smells("into water twice, out of it once", x, 0, 9, 6, 3, 2);
        x.source(VAT, 0, 3, 9);
        smells("a vat, from the other end", x, 1, 5, 5, 7, 9);
        x.wind(RIGHT);
        smells("with the wind", x, 0, 9, 7, 5, 5);
        smells("a vat against the wind", x, 1, 2, 3, 6, 9);
    }

    private static void neverLessThanNothing() {
        says("Terms", "but never less than 0");
        SmellBorders x = valley("..ww/####;1");
        x.source(TANNERY, 0, 0, 4);
        smells("0, then 2 into water", x, 0, 4, 4, 2, 0);
        x.wind(RIGHT);
        smells("-1 is 0; all together into water 1", x, 0, 4, 4, 3, 2);
        SmellBorders plain = valley("..../####;1");
        plain.source(PLAIN, 0, 0, 1);
        plain.wind(RIGHT);
        smells("0 for other kinds", plain, 0, 1, 1, 1, 1);
        SmellBorders vat = valley("..../....;1");
        vat.source(VAT, 0, 1, 1);
        for (int wind = 0; wind <= 4; wind++) {
            vat.wind(wind);
            due("never more than its force, wind " + wind, vat.cell(1, 2), 1);
            due("no step adds to it, wind " + wind, mostOf(vat), 1);
        }
    }

    private static int mostOf(SmellBorders x) {
        int most = 0;
        for (int cell = 0; cell < 8; cell++) {
            most = Math.max(most, x.cell(cell, 2));
        }
        return most;
    }

    private static void theBestWay() {
        says("Terms", "In a CELL is what is left of it on the way by which most is left");
        SmellBorders x = valley(".w../....;1");
        x.source(PLAIN, 0, 0, 9);
        smells("around the water: 0 4 5 6 2", x, 0, 9, 6, 5, 4, 8, 7, 6, 5);
        SmellBorders bent = valley("...#/#.#.;1");
        bent.source(PLAIN, 0, 0, 9);
        smells("only one way", bent, 0, 9, 8, 7, 0, 0, 7, 0, 0);
        SmellBorders winding = valley(".#../....;1");
        winding.source(PLAIN, 0, 2, 9);
        smells("to the left and up: 2 6 5 4 0", winding, 0, 5, 0, 9, 8, 6, 7, 8, 7);
    }

    private static void aboveNothing() {
        says("Terms", "if that is above 0.");
        SmellBorders x = valley("..../####;3");
        x.source(PLAIN, 0, 0, 3);
        due("3 - 3 left", x.about(0, 11), 0);
        due("nobody's", x.cell(1, 1), NONE);
        x.source(PLAIN, 0, 3, 4);
        due("4 - 3 left", x.about(1, 12), 1);
        due("its", x.cell(2, 1), 0);
        due("4 - 6 left", x.about(1, 11), 0);
        due("count(10)", x.count(10), 3);
    }

    private static void likeOnes() {
        says("Terms", "of like ones the SOURCE of the least number; nobody's, if nothing SMELLS there.");
        SmellBorders x = valley("..../####;1");
        for (int i = 0; i < 6; i++) {
            x.source(PLAIN, 2 - i % 3, 2, 5);
        }
        for (int i = 0; i < 6; i++) {
            due("the least that burns", x.cell(2, 4), i);
            due("its parish", x.cell(2, 1), 2 - i % 3);
            x.burn(i, false);
        }
        due("nobody's", x.cell(2, 1), NONE);
        due("by none", x.cell(2, 4), NONE);
        x.burn(5, true);
        due("the last alone", x.cell(2, 4), 5);
        x.burn(3, true);
        due("the lesser again", x.cell(2, 4), 3);
    }

    // ---- promise 8: source

    private static void refusedSources() {
        says(8, "OUTSIDE: kind, parish, strength; UNKNOWN: cell; STATE: it is not open; FULL.");
        for (int cell : beyond(0, 7)) {
            refused("cell " + cell, Sentences::busy, x -> x.source(4, 2, cell, 9), UNKNOWN);
        }
        refused("a wall", Sentences::busy, x -> x.source(4, 2, 1, 9), STATE);
        refused("water", Sentences::busy, x -> x.source(4, 2, 2, 9), STATE);
        for (int kind = 0; kind <= 4; kind++) {
            int of = kind;
            refused("a seventh of kind " + kind, SourceEdgesTest::sixSources, x -> x.source(of, 0, 0, 1), FULL);
        }
    }

    private static void firstRefusalOfSources() {
        says(8, "OUTSIDE: kind, parish, strength; UNKNOWN: cell; STATE: it is not open; FULL.");
        Made[] all = {SmellBorders::new, Sentences::busy, SourceEdgesTest::sixSources};
        for (Made made : all) {
            for (int cell : new int[] {0, 1, 2, 8, -1}) {
                refused("kind 5, cell " + cell, made, x -> x.source(5, 0, cell, 1), OUTSIDE);
                refused("parish 3, cell " + cell, made, x -> x.source(0, 3, cell, 1), OUTSIDE);
                refused("strength 0, cell " + cell, made, x -> x.source(0, 0, cell, 0), OUTSIDE);
                refused("strength 10, cell " + cell, made, x -> x.source(0, 0, cell, 10), OUTSIDE);
            }
            refused("cell 8", made, x -> x.source(0, 0, 8, 1), UNKNOWN);
            refused("cell -1", made, x -> x.source(0, 0, -1, 1), UNKNOWN);
        }
        refused("a wall when full", SourceEdgesTest::sixSources, x -> x.source(0, 0, 1, 1), STATE);
        refused("water when full", SourceEdgesTest::sixSources, x -> x.source(0, 0, 2, 1), STATE);
        refused("no VALLEY", SmellBorders::new, x -> x.source(0, 0, 0, 1), UNKNOWN);
    }

    // ---- promise 9: about

    private static void ofASource() {
        says(9, "what = 0 KIND, 1 PARISH, 2 CELL, 3 STRENGTH, 4 whether it BURNS (1, 0), 5 how many HOURS it BURNT, "
            + "6 FORCE, 7 whether it SMELLS now, 10 to 17 how much in CELL 0 to 7.");
        SmellBorders x = valley("..../....;2");
        x.source(CHEESE, 2, 7, 8);
        x.source(VAT, 1, 0, 1);
        x.hour();
        x.hour();
        x.burn(1, false);
        int[] cheese = {1, 2, 7, 8, 1, 2, 9, 1};
        int[] vat = {4, 1, 0, 1, 0, 2, 1, 0};
        for (int what = 0; what <= 7; what++) {
            due("about(0, " + what + ")", x.about(0, what), cheese[what]);
            due("about(1, " + what + ")", x.about(1, what), vat[what]);
        }
        smells("cheese from cell 7", x, 0, 1, 3, 5, 7, 3, 5, 7, 9);
        smells("a vat that does not burn", x, 1, 0, 0, 0, 0, 0, 0, 0, 0);
    }

    private static void refusedAbout() {
        says(9, "UNKNOWN; OUTSIDE.");
        for (int what : new int[] {-1, 8, 9, 18, MIN, MAX, 256, 266, 65536, 65546}) {
            refused("about(0, " + what + ")", Sentences::busy, x -> x.about(0, what), OUTSIDE);
            refused("about(3, " + what + ")", Sentences::busy, x -> x.about(3, what), OUTSIDE);
            refused("of several the first: about(4, " + what + ")", Sentences::busy, x -> x.about(4, what), UNKNOWN);
            refused("no VALLEY, about(0, " + what + ")", SmellBorders::new, x -> x.about(0, what), UNKNOWN);
        }
        for (int source : beyond(0, 3)) {
            refused("about(" + source + ", 0)", Sentences::busy, x -> x.about(source, 0), UNKNOWN);
            refused("about(" + source + ", 10)", Sentences::busy, x -> x.about(source, 10), UNKNOWN);
        }
        for (int source : beyond(0, 5)) {
            refused("of six, about(" + source + ", 0)", SourceEdgesTest::sixSources, x -> x.about(source, 0), UNKNOWN);
        }
        due("the last of six", sixSources().about(5, 3), 4);
    }

    // ---- promise 10: as

    private static void casts() {
        says(10, "A SOURCE taken as a KIND: its number; NONE: it is none such (the cast fails).");
        SmellBorders x = valley("..../....;1");
        for (int i = 0; i < 6; i++) {
            x.source(5 - Math.max(1, i), 0, 0, 1);
        }
        int[] kinds = {4, 4, 3, 2, 1, 0};
        for (int i = 0; i < 6; i++) {
            for (int kind = 0; kind <= 4; kind++) {
                boolean such = kind == 0 || kind == kinds[i] || kind == 3 && kinds[i] == 4;
                due("kind " + kinds[i] + ", as(" + i + ", " + kind + ")", x.as(i, kind), such ? i : NONE);
            }
        }
    }

    private static void vatsAreTanneries() {
        says("Terms", "All are SOURCES; a VAT is a TANNERY, too.");
        SmellBorders x = valley("..../....;1");
        x.source(VAT, 0, 0, 1);
        x.source(TANNERY, 0, 0, 1);
        due("a vat is a tannery", x.as(0, TANNERY), 0);
        due("a tannery is no vat", x.as(1, VAT), NONE);
        due("a vat's kind is its own all the same", x.about(0, 0), VAT);
    }

    private static void refusedCasts() {
        says(10, "UNKNOWN; OUTSIDE.");
        for (int kind : beyond(0, 4)) {
            refused("as(0, " + kind + ")", Sentences::busy, x -> x.as(0, kind), OUTSIDE);
            refused("of several the first: as(4, " + kind + ")", Sentences::busy, x -> x.as(4, kind), UNKNOWN);
            refused("no VALLEY, as(0, " + kind + ")", SmellBorders::new, x -> x.as(0, kind), UNKNOWN);
        }
        for (int source : beyond(0, 3)) {
            refused("as(" + source + ", 0)", Sentences::busy, x -> x.as(source, 0), UNKNOWN);
        }
    }

    // ---- promise 11: burn

    private static void burning() {
        says(11, "It BURNS, or does not: whether it did (1, 0).");
        SmellBorders x = valley("..../....;1");
        x.source(PLAIN, 0, 0, 1);
        x.source(PLAIN, 0, 0, 1);
        due("it burns still", x.burn(1, true), 1);
        due("it did", x.burn(1, false), 1);
        due("it did not", x.burn(1, false), 0);
        due("none but it", x.about(0, 4), 1);
        due("count(3)", x.count(3), 1);
        due("it did not, and does", x.burn(1, true), 0);
        due("count(3) again", x.count(3), 2);
        due("how long it burnt is as it was", x.about(1, 5), 0);
    }

    private static void refusedBurning() {
        says(11, "UNKNOWN.");
        for (boolean is : new boolean[] {true, false}) {
            for (int source : beyond(0, 3)) {
                refused("burn(" + source + ", " + is + ")", Sentences::busy, x -> x.burn(source, is), UNKNOWN);
            }
            for (int source : beyond(0, 5)) {
                refused("of six, burn(" + source + ")", SourceEdgesTest::sixSources, x -> x.burn(source, is), UNKNOWN);
            }
            refused("no VALLEY, burn(0, " + is + ")", SmellBorders::new, x -> x.burn(0, is), UNKNOWN);
        }
        Made restored = () -> {
            SmellBorders x = busy();
            x.restore();
            return x;
        };
        refused("one that is gone", restored, x -> x.burn(3, false), UNKNOWN);
        due("the last that is not", restored.one().burn(2, false), 1);
    }

    // ---- promise 12: wind

    private static void winds() {
        says(12, "The WIND: what it was.");
        SmellBorders x = valley("..../....;1");
        for (int was = 0; was <= 4; was++) {
            for (int wind = 0; wind <= 4; wind++) {
                x.wind(was);
                due("wind(" + wind + ") behind " + was, x.wind(wind), was);
                due("count(4)", x.count(4), wind);
            }
        }
    }

    private static void refusedWinds() {
        says(12, "OUTSIDE: wind (0 to 4); STATE: no VALLEY.");
        for (int wind : beyond(0, 4)) {
            refused("wind(" + wind + ")", Sentences::busy, x -> x.wind(wind), OUTSIDE);
            refused("of several the first: wind(" + wind + ")", SmellBorders::new, x -> x.wind(wind), OUTSIDE);
        }
        for (int wind : between(0, 4)) {
            refused("no VALLEY, wind(" + wind + ")", SmellBorders::new, x -> x.wind(wind), STATE);
        }
    }

    // ---- promise 13: frost

    private static void frosts() {
        says(13, "There is FROST, or there is none: whether there was (1, 0).");
        SmellBorders x = valley("..../....;1");
        due("none still", x.frost(false), 0);
        due("none was", x.frost(true), 0);
        due("there was", x.frost(true), 1);
        due("count(5)", x.count(5), 1);
        due("there was, and is none", x.frost(false), 1);
        due("count(5) again", x.count(5), 0);
    }

    private static void refusedFrost() {
        says(13, "STATE: no VALLEY.");
        refused("frost(true)", SmellBorders::new, x -> x.frost(true), STATE);
        refused("frost(false)", SmellBorders::new, x -> x.frost(false), STATE);
        refused("behind a page", () -> page("..../....;1"), x -> x.frost(true), STATE);
    }

    // ---- promise 14: people

    private static void peopleLive() {
        says("Terms", "On each CELL live PEOPLE (0 to 9; none at first).");
        SmellBorders x = valley("..w./....;1");
        for (int cell = 0; cell < 8; cell++) {
            due("none at first", x.cell(cell, 3), 0);
            due("0 of 0", x.people(cell, 0), 0);
            due("9 of 0", x.people(cell, 9), 0);
            due("so many of 9", x.people(cell, cell), 9);
            due("cell(" + cell + ", 3)", x.cell(cell, 3), cell);
        }
        due("the last stay where they are", x.cell(0, 3), 0);
    }

    private static void refusedPeople() {
        says(14, "UNKNOWN; OUTSIDE: many (0 to 9); STATE: it is a WALL.");
        for (int many : beyond(0, 9)) {
            refused("people(0, " + many + ")", Sentences::busy, x -> x.people(0, many), OUTSIDE);
            refused("of several the first: people(1, " + many + ")", Sentences::busy, x -> x.people(1, many), OUTSIDE);
            refused("of several the first: people(8, " + many + ")", Sentences::busy, x -> x.people(8, many), UNKNOWN);
            refused("no VALLEY, people(0, " + many + ")", SmellBorders::new, x -> x.people(0, many), UNKNOWN);
        }
        for (int cell : beyond(0, 7)) {
            refused("people(" + cell + ", 9)", Sentences::busy, x -> x.people(cell, 9), UNKNOWN);
        }
        for (int many : between(0, 9)) {
            refused(many + " on a wall", Sentences::busy, x -> x.people(1, many), STATE);
        }
        due("on water", busy().people(2, 9), 5);
        due("on water none", busy().people(2, 0), 5);
    }

    // ---- promise 15: dusk

    private static void duskOn(int people, int want) {
        SmellBorders x = valley("..../....;1");
        for (int cell = 0, rest = people; cell < 8; cell++) {
            x.people(cell, Math.min(9, rest));
            rest -= Math.min(9, rest);
        }
        due("dusk with " + people + " on nobody's", x.dusk(), 3 * want);
        for (int parish = 0; parish < 3; parish++) {
            due("taxes of " + parish + " with " + people + " on nobody's", x.count(7 + parish), want);
        }
    }

    private static void halfRoundedDown() {
        says("Terms", "and half of those (rounded down) who live on nobody's.");
        duskOn(0, 0);
        duskOn(1, 0);
        duskOn(2, 1);
        duskOn(3, 1);
        duskOn(9, 4);
        duskOn(71, 35);
        duskOn(72, 36);
    }

    private static void halfOfAllTogether() {
        says("Terms", "and half of those (rounded down) who live on nobody's.");
        SmellBorders x = valley("w.../....;1");
        for (int cell = 0; cell < 8; cell++) {
            x.people(cell, 1);
        }
        due("one on each of eight, in water too", x.dusk(), 3 * 4);
        x.source(PLAIN, 1, 7, 1);
        due("one of them on 1's, 7 on nobody's", x.dusk(), 1 + 3 * 3);
        due("taxes of 0", x.count(7), 4 + 3);
        due("taxes of 1", x.count(8), 4 + 3 + 1);
        due("taxes of 2", x.count(9), 4 + 3);
    }

    private static void duskOfAll() {
        says(15, "DUSK: how much TAXES all have more together.");
        SmellBorders x = valley("..../....;1");
        due("nobody lives there", x.dusk(), 0);
        for (int cell = 0; cell < 8; cell++) {
            x.people(cell, 9);
        }
        x.source(PLAIN, 0, 0, 9);
        x.source(PLAIN, 2, 3, 9);
        due("all on somebody's", x.dusk(), 72);
        due("more, not all that they have", x.dusk(), 72);
        due("taxes of 0", x.count(7), 72);
        due("taxes of 1", x.count(8), 0);
        due("taxes of 2", x.count(9), 72);
        due("dusk ends no hour", x.count(6), 0);
        due("people stay", x.cell(7, 3), 9);
    }

    private static void refusedDusk() {
        says(15, "STATE: no VALLEY.");
        refused("dusk()", SmellBorders::new, SmellBorders::dusk, STATE);
        refused("behind a page", () -> page("..../....;1"), SmellBorders::dusk, STATE);
    }

    // ---- promise 16: hour

    private static void hoursEnd() {
        says(16, "An HOUR ends: the number of the next one.");
        SmellBorders x = valley("####/####;1");
        for (int hour = 1; hour <= 400; hour++) {
            due("hour " + hour, x.hour(), hour);
        }
        due("count(6)", x.count(6), 400);
    }

    private static void burntAnHourMore() {
        says("Terms", "An HOUR ends: each SOURCE that BURNT has BURNT an HOUR more.");
        SmellBorders x = sixSources();
        x.burn(0, false);
        x.burn(5, false);
        x.hour();
        x.frost(true);
        x.burn(0, true);
        x.hour();
        int[] burnt = {1, 2, 2, 2, 2, 0};
        for (int source = 0; source < 6; source++) {
            due("about(" + source + ", 5)", x.about(source, 5), burnt[source]);
        }
    }

    private static void refusedHours() {
        says(16, "STATE: no VALLEY.");
        refused("hour()", SmellBorders::new, SmellBorders::hour, STATE);
        refused("behind a page", () -> page("..../....;1"), SmellBorders::hour, STATE);
    }

    public static void main(String[] args) {
        sixAtMost();
        kinds();
        parishes();
        openCells();
        strengths();
        burnsAtFirst();
        smellsIfItBurns();
        jasmineByHours();
        frostButAVat();
        cheeseRipens();
        cheeseOnlyWhileItBurns();
        noWayIntoWalls();
        fades();
        byTheWind();
        intoWater();
        neverLessThanNothing();
        theBestWay();
        aboveNothing();
        likeOnes();
        refusedSources();
        firstRefusalOfSources();
        ofASource();
        refusedAbout();
        casts();
        vatsAreTanneries();
        refusedCasts();
        burning();
        refusedBurning();
        winds();
        refusedWinds();
        frosts();
        refusedFrost();
        peopleLive();
        refusedPeople();
        halfRoundedDown();
        halfOfAllTogether();
        duskOfAll();
        refusedDusk();
        hoursEnd();
        burntAnHourMore();
        refusedHours();
        end(8, 16);
    }
}
