/** The boundary cases of the page and the valley: the document's terms for them, promises 1 to 7. */
public final class ValleyEdgesTest extends Sentences {
    /** What may stand at each place of the text of a valley. */
    private static final String[] PLACES = {".#w", ".#w", ".#w", ".#w", "/", ".#w", ".#w", ".#w", ".#w", ";", "123"};
    private static final String TEXT = "..../....;1";

    // ---- what it is, terms

    private static void fiveHundredTwelveCalls() {
        says("What it is", "An object is used for at most 512 calls after it has been made");
        SmellBorders x = valley("..../....;1");
        x.source(CHEESE, 2, 7, 1);
        x.people(0, 9);
        x.people(7, 9);
        // 15 calls so far; 2 for each hour, then the last 3. The cheese is smelt on cell 0, four steps away, when above 4.
        int hours = 0;
        for (; hours < 247; hours++) {
            due("dusk of hour " + hours, x.dusk(), 1 + hours > 4 ? 9 + 9 : 9 + 3 * 4);
            due("the end of hour " + hours, x.hour(), hours + 1);
        }
        due("call 510", x.about(0, 5), hours);
        due("call 511", x.count(9), 4 * (9 + 4) + (hours - 4) * 18);
        due("call 512", x.hour(), hours + 1);
    }

    private static void textOfAValley() {
        says("What it is", "A VALLEY is a text: four signs, \"/\", four signs:");
        for (int place = 0; place < PLACES.length; place++) {
            for (int code = 1; code <= 126; code++) {
                SmellBorders x = page(TEXT.substring(0, place));
                x.letter(code);
                boolean may = PLACES[place].indexOf(code) >= 0;
                due("fault with code " + code + " at place " + place, x.fault(), may ? place + 1 : place);
                write(x, TEXT.substring(place + 1));
                due("is code " + code + " at place " + place + " a valley's", x.valley() >= 0 ? 1 : 0, may ? 1 : 0);
            }
        }
    }

    private static void fade() {
        says("Terms", "then \";\" and a digit FADE (1 to 3)");
        for (int fade = 1; fade <= 3; fade++) {
            due("FADE " + fade, valley("..../....;" + fade).count(1), fade);
        }
        for (String digit : new String[] {"0", "4", "9"}) {
            refused("FADE " + digit, () -> page("..../....;" + digit), SmellBorders::valley, STATE);
        }
    }

    private static void eightCells() {
        says("Terms", "CELLS are 0 to 7 as told (0 to 3 in the first row, 4 to 7 in the second one)");
        Made made = () -> valley("#..w/w..#;1");
        int[] ground = {1, 0, 0, 2, 2, 0, 0, 1};
        for (int cell = 0; cell < 8; cell++) {
            due("cell(" + cell + ", 0)", made.one().cell(cell, 0), ground[cell]);
        }
        for (int cell : beyond(0, 7)) {
            refused("cell(" + cell + ", 0)", made, x -> x.cell(cell, 0), UNKNOWN);
        }
    }

    private static void beside() {
        says("Terms", "Beside a CELL are that left, that right of it in its row, and that above or below it.");
        int[][] beside = {{1, 4}, {0, 2, 5}, {1, 3, 6}, {2, 7}, {0, 5}, {1, 4, 6}, {2, 5, 7}, {3, 6}};
        for (int cell = 0; cell < 8; cell++) {
            SmellBorders x = valley("..../....;3");
            x.source(PLAIN, 0, cell, 4);
            int[] want = new int[8];
            want[cell] = 4;
            for (int other : beside[cell]) {
                want[other] = 1;
            }
            smells("4 on " + cell + " with FADE 3", x, 0, want);
        }
    }

    private static void atFirst() {
        says("Terms", "At first there is no VALLEY; there is no WIND (0; it may blow 1 to the right, 2 to the left, "
            + "3 down, 4 up), no FROST, it is HOUR 0.");
        counts("at first", new SmellBorders(), 0, 0, 0, 0, 0, 0, 0, 0, 0, 0, 0, 0, 0, 0, 0, 0);
        SmellBorders x = valley("..../....;2");
        counts("a valley at first", x, 8, 2, 0, 0, 0, 0, 0, 0, 0, 0, 0, 0, 0, 1, 0, 0);
        due("no WIND was", x.wind(UP), 0);
        due("no FROST was", x.frost(true), 0);
        due("HOUR 1 is next", x.hour(), 1);
    }

    // ---- promise 1: a new object

    private static void newObjectRefuses() {
        says(1, "No VALLEY.");
        Made made = SmellBorders::new;
        refused("valley()", made, SmellBorders::valley, STATE);
        refused("cell(0, 0)", made, x -> x.cell(0, 0), UNKNOWN);
        refused("source(0, 0, 0, 1)", made, x -> x.source(0, 0, 0, 1), UNKNOWN);
        refused("about(0, 0)", made, x -> x.about(0, 0), UNKNOWN);
        refused("as(0, 0)", made, x -> x.as(0, 0), UNKNOWN);
        refused("burn(0, true)", made, x -> x.burn(0, true), UNKNOWN);
        refused("wind(0)", made, x -> x.wind(0), STATE);
        refused("frost(false)", made, x -> x.frost(false), STATE);
        refused("people(0, 0)", made, x -> x.people(0, 0), UNKNOWN);
        refused("dusk()", made, SmellBorders::dusk, STATE);
        refused("hour()", made, SmellBorders::hour, STATE);
        refused("weakest(0, 0, 0)", made, x -> x.weakest(0, 0, 0), UNKNOWN);
        refused("walls(0, 0, 0)", made, x -> x.walls(0, 0, 0), UNKNOWN);
        refused("hold(0, 0)", made, x -> x.hold(0, 0), UNKNOWN);
        refused("nose(0, 0)", made, x -> x.nose(0, 0), UNKNOWN);
        refused("unknown(0)", made, x -> x.unknown(0), STATE);
        refused("sniff()", made, SmellBorders::sniff, STATE);
        refused("days(1, 0, 0)", made, x -> x.days(1, 0, 0), STATE);
        refused("image()", made, SmellBorders::image, STATE);
        refused("restore()", made, SmellBorders::restore, STATE);
    }

    private static void newObjectIsEmpty() {
        says(1, "No VALLEY.");
        SmellBorders x = new SmellBorders();
        due("blank()", x.blank(), 0);
        due("fault()", x.fault(), 0);
        due("borders()", x.borders(), 0);
        due("forget()", x.forget(), 0);
        long h = 811;
        for (int i = 0; i < 1 + 16; i++) {
            h *= 31;
        }
        due("digest()", x.digest(), h);
        due("two objects share nothing", page("....").count(12) + new SmellBorders().count(12), 4);
    }

    // ---- promise 2: letter

    private static void lettersAreCounted() {
        says(2, "A letter comes behind THE PAGE, by its code: how many THE PAGE has.");
        SmellBorders x = new SmellBorders();
        for (int i = 1; i <= 14; i++) {
            due("letter " + i, x.letter(i), i);
        }
        long h = 811 * 31;
        for (int i = 1; i <= 14; i++) {
            h = 31 * h + i;
        }
        for (int what = 0; what < 16; what++) {
            h = 31 * h + (what == 12 ? 14 : 0);
        }
        due("the letters in order, by digest()", x.digest(), h);
    }

    private static void codes() {
        says(2, "OUTSIDE: code (1 to 126)");
        for (int code : new int[] {1, 2, 125, 126}) {
            due("letter(" + code + ")", new SmellBorders().letter(code), 1);
            due("letter(" + code + ") as the 14th", page(".............").letter(code), 14);
        }
        for (int code : beyond(1, 126)) {
            refused("letter(" + code + ") on an empty page", SmellBorders::new, x -> x.letter(code), OUTSIDE);
            refused("letter(" + code + ") on a page begun", Sentences::busy, x -> x.letter(code), OUTSIDE);
        }
    }

    private static void fullPage() {
        says(2, "FULL: above 14.");
        Made full = () -> page("..../....;1..");
        due("the 14th", full.one().letter('.'), 14);
        Made fuller = () -> page("..../....;1...");
        for (int code : new int[] {1, '.', 126}) {
            refused("the 15th, " + code, fuller, x -> x.letter(code), FULL);
        }
        for (int code : beyond(1, 126)) {
            refused("of several the first: the 15th, " + code, fuller, x -> x.letter(code), OUTSIDE);
        }
        SmellBorders x = fuller.one();
        x.letter('.');
        due("blank() then", x.blank(), 14);
        due("a letter then", x.letter('.'), 1);
    }

    // ---- promise 3: blank

    private static void blankPage() {
        says(3, "THE PAGE is empty: how many letters it had.");
        for (int many = 0; many <= 14; many++) {
            SmellBorders x = page("..../....;1...".substring(0, many));
            due("blank() of " + many, x.blank(), many);
            due("count(12) then", x.count(12), 0);
            due("fault() then", x.fault(), 0);
            due("blank() again", x.blank(), 0);
        }
        SmellBorders x = busy();
        x.blank();
        write(x, ".#w");
        alike("nothing but the page is empty", x, busy());
    }

    // ---- promise 4: fault

    private static void faultOf(String text, int want) {
        SmellBorders x = page(text);
        due("fault() of '" + text + "'", x.fault(), want);
        alike("fault() changes nothing", x, page(text));
    }

    private static void firstWrongLetter() {
        says(4, "The place (from 0) of the first letter of THE PAGE that no VALLEY has there, behind those ahead of it");
        faultOf("x", 0);
        faultOf("/.../....;1", 0);
        faultOf(".W../....;1", 1);
        faultOf(".....", 4);
        faultOf("....;", 4);
        faultOf("..../...;", 8);
        faultOf("..../..../", 9);
        faultOf("..../....;0", 10);
        faultOf("..../....;4", 10);
        faultOf("..../....;w", 10);
        faultOf("x.../...x;0", 0);
        faultOf("...x/...x;0", 3);
    }

    private static void longPages() {
        says(4, "The place (from 0) of the first letter of THE PAGE that no VALLEY has there, behind those ahead of it");
        faultOf("..../....;1.", 11);
        faultOf("..../....;11", 11);
        faultOf("..../....;1./", 11);
        faultOf("..../....;1;1;", 11);
        faultOf("..../....;0;1;", 10);
    }

    private static void noWrongLetter() {
        says(4, "how many letters it has, if there is none");
        for (int many = 0; many <= 11; many++) {
            faultOf(".#w./w#.#;3".substring(0, many), many);
        }
    }

    // ---- promise 5: valley

    private static void openCells() {
        says(5, "how many CELLS are open");
        String[] texts = {"####/####;1", "wwww/wwww;2", "#w#w/w#w#;3", ".###/####;1", "www./wwww;1", "####/###.;1",
            "..../...#;1", "..../....;3"};
        int[] open = {0, 0, 0, 1, 1, 1, 7, 8};
        for (int i = 0; i < texts.length; i++) {
            SmellBorders x = page(texts[i]);
            due("valley() of " + texts[i], x.valley(), open[i]);
            due("count(0) of " + texts[i], x.count(0), open[i]);
        }
    }

    private static void pageIsEmptyThen() {
        says(5, "THE PAGE is empty then");
        SmellBorders x = valley("..../....;1");
        due("count(12)", x.count(12), 0);
        due("blank()", x.blank(), 0);
        refused("valley() at once again", () -> valley("..../....;1"), SmellBorders::valley, STATE);
        due("the page takes 14 again", write(x, ".............").letter('.'), 14);
    }

    private static void noValley() {
        says(5, "STATE: it is none.");
        String[] texts = {"", ".", "..../....", "..../....;", "..../....;0", "..../....;4", "..../....;1.", "..../....;11",
            "..../....;1...", "x.../....;1", "...../...;1", ".../.....;1", "..../....:1", "........;1", "..../...W;1"};
        for (String text : texts) {
            refused("valley() of '" + text + "'", () -> page(text), SmellBorders::valley, STATE);
            refused("valley() of '" + text + "' behind another", () -> {
                SmellBorders x = busy();
                x.blank();
                return write(x, text);
            }, SmellBorders::valley, STATE);
        }
        refused("valley() of a page begun", Sentences::busy, SmellBorders::valley, STATE);
    }

    private static void anotherValley() {
        says(5, "another one is gone, with all that was; all is as at first");
        SmellBorders x = busy();
        x.frost(true);
        x.blank();
        due("valley() behind another", write(x, "####/...#;3").valley(), 3);
        counts("another valley", x, 3, 3, 0, 0, 0, 0, 0, 0, 0, 0, 0, 0, 0, 2, 1, 2);
        for (int cell = 0; cell < 8; cell++) {
            int[] want = {cell >= 4 && cell <= 6 ? 0 : 1, NONE, 0, 0, NONE};
            for (int what = 0; what <= 4; what++) {
                due("another valley, cell(" + cell + ", " + what + ")", x.cell(cell, what), want[what]);
            }
        }
        due("the noses are gone", x.unknown(0), 3 * 27);
        due("the image is gone", x.restore(), STATE);
        for (int source = 0; source < 6; source++) {
            due("the sources are gone", x.about(source, 0), UNKNOWN);
        }
        due("six sources may come", sixMore(x), 5);
        due("the first has burnt no hour", x.about(0, 5), 0);
        due("the second burns", x.about(1, 4), 1);
    }

    private static int sixMore(SmellBorders x) {
        int last = NONE;
        for (int i = 0; i < 6; i++) {
            last = x.source(CHEESE, 0, 5, 1);
        }
        return last;
    }

    private static void theSameValley() {
        says(5, "another one is gone, with all that was; all is as at first");
        SmellBorders x = busy();
        x.blank();
        due("valley() of the same text", write(x, ".#w./....;2").valley(), 6);
        counts("the same text", x, 6, 2, 0, 0, 0, 0, 0, 0, 0, 0, 0, 0, 0, 2, 1, 2);
        due("the same text: the image is gone", x.restore(), STATE);
        due("the same text: people are gone", x.cell(0, 3), 0);
    }

    // ---- promise 6: cell

    private static void ofACell() {
        says(6, "what = 0 whether it is open (0), a WALL (1), WATER (2), 1 whose it is (NONE), 2 how much the most SMELLS "
            + "there, 3 PEOPLE, 4 by which SOURCE it is somebody's (NONE)");
        SmellBorders x = valley(".#w./####;3");
        x.people(0, 9);
        int[] empty = {0, NONE, 0, 9, NONE};
        int[] wall = {1, NONE, 0, 0, NONE};
        int[] water = {2, NONE, 0, 0, NONE};
        for (int what = 0; what <= 4; what++) {
            due("an empty cell, " + what, x.cell(0, what), empty[what]);
            due("a wall, " + what, x.cell(1, what), wall[what]);
            due("water, " + what, x.cell(2, what), water[what]);
        }
        x.source(PLAIN, 2, 0, 1);
        x.source(TANNERY, 1, 3, 5);
        int[] least = {0, 2, 1, 9, 0};
        int[] smelt = {2, 1, 1, 0, 1};
        for (int what = 0; what <= 4; what++) {
            due("the least smell, " + what, x.cell(0, what), least[what]);
            due("a wall still, " + what, x.cell(1, what), wall[what]);
            due("water that smells, " + what, x.cell(2, what), smelt[what]);
        }
    }

    private static void refusedCells() {
        says(6, "UNKNOWN (also without a VALLEY); OUTSIDE.");
        Made[] all = {Sentences::busy, SmellBorders::new};
        for (int what : beyond(0, 4)) {
            refused("cell(0, " + what + ")", all[0], x -> x.cell(0, what), OUTSIDE);
            refused("cell(7, " + what + ")", all[0], x -> x.cell(7, what), OUTSIDE);
            refused("without a VALLEY, cell(0, " + what + ")", all[1], x -> x.cell(0, what), UNKNOWN);
        }
        for (int cell : beyond(0, 7)) {
            for (Made made : all) {
                refused("cell(" + cell + ", 4)", made, x -> x.cell(cell, 4), UNKNOWN);
                refused("of several the first: cell(" + cell + ", 5)", made, x -> x.cell(cell, 5), UNKNOWN);
                refused("of several the first: cell(" + cell + ", -1)", made, x -> x.cell(cell, -1), UNKNOWN);
            }
        }
        for (int cell = 0; cell < 8; cell++) {
            due("without a VALLEY, cell(" + cell + ", 0)", new SmellBorders().cell(cell, 0), UNKNOWN);
        }
    }

    // ---- promise 7: borders

    private static void noBorders() {
        says(7, "BORDERS.");
        due("without a VALLEY", new SmellBorders().borders(), 0);
        due("without a SOURCE", valley("..../....;1").borders(), 0);
        SmellBorders x = valley("..../....;1");
        x.source(PLAIN, 0, 0, 9);
        x.source(PLAIN, 0, 3, 9);
        due("of one PARISH with itself", x.borders(), 0);
    }

    private static void bordersBesideEachOther() {
        says("Terms", "BORDERS: pairs of CELLS beside each other, each somebody's, not of the same PARISH.");
        for (int a = 0; a < 8; a++) {
            for (int b = 0; b < 8; b++) {
                SmellBorders x = valley("..../....;3");
                x.source(PLAIN, 1, a, 3);
                x.source(PLAIN, 2, b, 3);
                boolean row = a / 4 == b / 4 && Math.abs(a - b) == 1;
                boolean column = Math.abs(a - b) == 4;
                due("1 on " + a + ", 2 on " + b, x.borders(), row || column ? 1 : 0);
            }
        }
    }

    private static void manyBorders() {
        says("Terms", "BORDERS: pairs of CELLS beside each other, each somebody's, not of the same PARISH.");
        SmellBorders x = valley("..../....;3");
        x.source(PLAIN, 0, 1, 4);
        x.source(PLAIN, 1, 2, 2);
        x.source(PLAIN, 0, 3, 4);
        x.source(PLAIN, 2, 4, 2);
        x.source(PLAIN, 1, 5, 2);
        x.source(PLAIN, 2, 6, 2);
        whose("two corners are smelt from beside", x, 0, 0, 1, 0, 2, 1, 2, 0);
        due("all pairs but 0 and 1, 3 and 7", x.borders(), 8);
        x.frost(true);
        due("in frost there is peace", x.borders(), 0);
    }

    private static void nobodysIsNoBorder() {
        says("Terms", "BORDERS: pairs of CELLS beside each other, each somebody's, not of the same PARISH.");
        SmellBorders x = valley("...w/####;3");
        x.source(PLAIN, 1, 0, 3);
        due("with nobody's", x.borders(), 0);
        x.source(PLAIN, 2, 2, 5);
        due("nobody's between is smelt now", x.borders(), 1);
        x.source(VAT, 0, 2, 5);
        whose("a vat beside it, one step in water", x, 1, 0, 2, 0);
        due("water may be somebody's", x.borders(), 3);
    }

    public static void main(String[] args) {
        fiveHundredTwelveCalls();
        textOfAValley();
        fade();
        eightCells();
        beside();
        atFirst();
        newObjectRefuses();
        newObjectIsEmpty();
        lettersAreCounted();
        codes();
        fullPage();
        blankPage();
        firstWrongLetter();
        longPages();
        noWrongLetter();
        openCells();
        pageIsEmptyThen();
        noValley();
        anotherValley();
        theSameValley();
        ofACell();
        refusedCells();
        noBorders();
        bordersBesideEachOther();
        manyBorders();
        nobodysIsNoBorder();
        end(1, 7);
    }
}
