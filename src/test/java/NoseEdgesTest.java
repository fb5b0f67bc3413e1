import java.math.BigInteger;

/** The boundary cases of noses, unknown sources, sniffing and days: promises 20 to 24. */
public final class NoseEdgesTest extends Sentences {
    private static SmellBorders noses(int many) {
        SmellBorders x = valley("..#w/....;1");
        for (int i = 0; i < many; i++) {
            x.nose(i, i % 4 - 1);
        }
        return x;
    }

    private static SmellBorders asked(int times) {
        SmellBorders x = valley("..../....;1");
        x.nose(7, 2);
        for (int i = 0; i < times; i++) {
            if (i % 3 == 0) x.sniff();
            else x.unknown(i % 2);
        }
        return x;
    }

    // ---- promise 20: nose

    private static void eightAtMost() {
        says("Terms", "NOSES (8 at most): whose a CELL was found to be (NONE: nobody's).");
        SmellBorders x = valley("..#w/....;1");
        for (int i = 1; i <= 8; i++) {
            due("nose " + i, x.nose(i - 1, i % 4 - 1), i);
            due("count(11)", x.count(11), i);
        }
        due("the ninth", x.nose(0, 0), FULL);
        due("the ninth where one is", x.nose(7, -1), FULL);
        due("count(11) then", x.count(11), 8);
        SmellBorders same = valley("..../....;1");
        for (int i = 1; i <= 8; i++) {
            due("again and again on a cell", same.nose(0, 0), i);
        }
    }

    private static void everyNoseCounts() {
        says("Terms", "NOSES (8 at most): whose a CELL was found to be (NONE: nobody's).");
        SmellBorders x = valley("..../....;1");
        for (int i = 0; i < 7; i++) {
            x.nose(0, 0);
        }
        due("seven alike", x.unknown(1), 0);
        x.nose(0, 1);
        due("the eighth is another", x.unknown(0), 0);
        SmellBorders first = valley("..../....;1");
        first.nose(0, 1);
        for (int i = 0; i < 7; i++) {
            first.nose(0, 0);
        }
        due("the first is another", first.unknown(0), 0);
    }

    private static void noseParishes() {
        says(20, "OUTSIDE: parish (NONE, 0 to 2)");
        for (int parish = 0; parish <= 2; parish++) {
            SmellBorders x = valley(".###/####;1");
            due("nose(0, " + parish + ")", x.nose(0, parish), 1);
            due("such of parish " + parish, x.unknown(0), 9);
            due("the least of parish " + parish, x.unknown(1), 9 * parish);
        }
        SmellBorders nobodys = valley(".###/####;1");
        due("nose(1, NONE)", nobodys.nose(1, NONE), 1);
        due("nothing smells in a wall", nobodys.unknown(0), 27);
        due("nose(0, NONE)", nobodys.nose(0, NONE), 2);
        due("each smells on its own cell", nobodys.unknown(0), 0);
        for (int parish : beyond(NONE, 2)) {
            refused("nose(0, " + parish + ")", Sentences::busy, x -> x.nose(0, parish), OUTSIDE);
        }
    }

    private static void refusedNoses() {
        says(20, "UNKNOWN: cell; OUTSIDE: parish (NONE, 0 to 2); FULL.");
        Made[] all = {Sentences::busy, () -> noses(8)};
        for (Made made : all) {
            for (int cell : beyond(0, 7)) {
                refused("nose(" + cell + ", 2)", made, x -> x.nose(cell, 2), UNKNOWN);
                refused("of several the first: nose(" + cell + ", 3)", made, x -> x.nose(cell, 3), UNKNOWN);
            }
            refused("of several the first: nose(7, 3)", made, x -> x.nose(7, 3), OUTSIDE);
            refused("of several the first: nose(0, -2)", made, x -> x.nose(0, -2), OUTSIDE);
        }
        for (int cell = 0; cell < 8; cell++) {
            int on = cell;
            due("a nose anywhere", noses(7).nose(cell, 0), 8);
            refused("the ninth on " + cell, all[1], x -> x.nose(on, NONE), FULL);
            refused("no VALLEY, nose(" + cell + ", 0)", SmellBorders::new, x -> x.nose(on, 0), UNKNOWN);
        }
        refused("no VALLEY, nose(0, 3)", SmellBorders::new, x -> x.nose(0, 3), UNKNOWN);
    }

    // ---- promise 21: forget

    private static void forgetAll() {
        says(21, "All NOSES are gone: how many there were.");
        due("no VALLEY", new SmellBorders().forget(), 0);
        for (int many = 0; many <= 8; many++) {
            SmellBorders x = noses(many);
            due("forget() of " + many, x.forget(), many);
            due("count(11) then", x.count(11), 0);
            due("forget() again", x.forget(), 0);
            due("all may be", x.unknown(0), 6 * 27);
            due("the next nose", x.nose(7, 2), 1);
        }
        SmellBorders x = noses(8);
        x.forget();
        alike("nothing else is gone", x, noses(0));
    }

    // ---- promise 22: unknown

    private static void numbersOfUnknown() {
        says("Terms", "27 times the CELL, 9 times the PARISH, and 1 less than STRENGTH together");
        due("the least of all: cell 0, parish 0, strength 1", valley("..../....;1").unknown(1), 0);
        SmellBorders last = valley("####/###.;1");
        last.source(PLAIN, 0, 7, 8);
        last.nose(7, 2);
        due("the greatest of all: how many", last.unknown(0), 1);
        due("the greatest of all: cell 7, parish 2, strength 9", last.unknown(1), 215);
        for (int cell = 0; cell < 8; cell++) {
            for (int parish = 0; parish <= 2; parish++) {
                SmellBorders x = valley("..../....;3");
                x.source(PLAIN, (parish + 1) % 3, cell, 4);
                x.nose(cell, parish);
                due("on cell " + cell + " above 4, or one step away above 7", x.unknown(1), leastAbove4(cell, parish));
            }
        }
    }

    /** From one step away, with FADE 3, strength 8 does; the least such cell stands ahead of the cell itself, if any. */
    private static int leastAbove4(int cell, int parish) {
        int[] leastBeside = {1, 0, 1, 2, 0, 1, 2, 3};
        boolean isLess = leastBeside[cell] < cell;
        return isLess ? 27 * leastBeside[cell] + 9 * parish + 7 : 27 * cell + 9 * parish + 4;
    }

    private static void howManyUnknown() {
        says("Terms", "how many of these, one alone BURNING more than it is known, would make all NOSES so; the least.");
        due("no noses, all open", valley("..../....;1").unknown(0), 216);
        due("no noses, one open", valley("wwww/#.##;1").unknown(0), 27);
        SmellBorders x = valley("..../####;3");
        x.nose(0, 0);
        due("9 on 0, 6 on 1, 3 on 2", x.unknown(0), 18);
        x.nose(3, 0);
        due("0 and 3: on 1 above 6, on 2 above 6", x.unknown(0), 6);
        x.nose(0, 1);
        due("one nose that none makes so", x.unknown(0), 0);
        due("one nose that none makes so: the least", x.unknown(1), NONE);
    }

    private static void likeOnesStayKnown() {
        says("Terms", "one alone BURNING more than it is known, would make all NOSES so");
        SmellBorders x = valley(".###/####;1");
        x.source(PLAIN, 0, 0, 4);
        x.nose(0, 1);
        due("above 4", x.unknown(0), 5);
        due("5 is the least", x.unknown(1), 9 + 4);
        x.forget();
        x.nose(0, 0);
        due("all of its own parish, others up to 4", x.unknown(0), 9 + 4 + 4);
        x.burn(0, false);
        due("known, but it does not burn", x.unknown(0), 9);
        x.burn(0, true);
        for (int i = 1; i < 6; i++) {
            x.source(PLAIN, 0, 0, 4);
        }
        due("one more than six", x.unknown(0), 9 + 4 + 4);
    }

    private static void noneUnknown() {
        says(22, "what = 0 how many, 1 the least (NONE)");
        SmellBorders x = valley("wwww/####;1");
        due("no open cell: how many", x.unknown(0), 0);
        due("no open cell: the least", x.unknown(1), NONE);
        SmellBorders frost = valley("..../....;1");
        frost.frost(true);
        due("in frost nothing is found", frost.unknown(0), 216);
        frost.nose(0, 0);
        due("in frost nothing is somebody's: how many", frost.unknown(0), 0);
        due("in frost nothing is somebody's: the least", frost.unknown(1), NONE);
        frost.forget();
        frost.nose(0, NONE);
        due("in frost all are nobody's", frost.unknown(0), 216);
    }

    private static void refusedUnknown() {
        says(22, "OUTSIDE; STATE: no VALLEY, or unknown(), sniff() were done 30 times together.");
        for (int what : beyond(0, 1)) {
            refused("unknown(" + what + ")", Sentences::busy, x -> x.unknown(what), OUTSIDE);
            refused("no VALLEY, unknown(" + what + ")", SmellBorders::new, x -> x.unknown(what), OUTSIDE);
            refused("done 30 times, unknown(" + what + ")", () -> asked(30), x -> x.unknown(what), OUTSIDE);
        }
        for (int what = 0; what <= 1; what++) {
            int of = what;
            refused("no VALLEY, unknown(" + what + ")", SmellBorders::new, x -> x.unknown(of), STATE);
            refused("done 30 times, unknown(" + what + ")", () -> asked(30), x -> x.unknown(of), STATE);
        }
    }

    private static void thirtyTimesTogether() {
        says(22, "unknown(), sniff() were done 30 times together");
        for (int times = 0; times < 30; times++) {
            due("unknown() behind " + times, asked(times).unknown(0) > 0 ? 1 : 0, 1);
            due("sniff() behind " + times, asked(times).sniff() >= 0 ? 1 : 0, 1);
            due("count(15) of " + times, asked(times).count(15), times);
        }
        due("count(15) is 30 at most", asked(35).count(15), 30);
        SmellBorders alone = valley("..../....;1");
        for (int i = 0; i < 30; i++) {
            due("unknown() alone, " + i, alone.unknown(1), 0);
        }
        due("unknown() alone, 30 times", alone.unknown(1), STATE);
        due("sniff() then", alone.sniff(), STATE);
        SmellBorders sniffed = valley("####/####;1");
        for (int i = 0; i < 30; i++) {
            due("sniff() alone, of no such sources, " + i, sniffed.sniff(), NONE);
        }
        due("sniff() alone, 30 times", sniffed.sniff(), STATE);
        due("unknown() then", sniffed.unknown(0), STATE);
    }

    private static void refusedOnesAreNotDone() {
        says(22, "unknown(), sniff() were done 30 times together");
        SmellBorders x = asked(29);
        x.unknown(2);
        x.unknown(-1);
        due("refused ones do not count", x.count(15), 29);
        due("the 30th", x.unknown(0) > 0 ? 1 : 0, 1);
        due("the 31st", x.unknown(0), STATE);
        due("other calls go on", x.walls(0, 0, 0), 0);
        x.image();
        x.restore();
        due("an image gives none back", x.sniff(), STATE);
    }

    // ---- promise 23: sniff

    private static void whereToSniff() {
        says("Terms", "SNIFF: the CELL by which, whoever's it is found to be, fewest of these would be left at worst: "
            + "of like ones the least.");
        due("the first cell", valley(".###/####;1").sniff(), 0);
        due("the last cell", valley("####/###.;1").sniff(), 7);
        due("9 at worst in the water, too", valley(".w##/####;1").sniff(), 0);
        SmellBorders x = valley("#.../####;3");
        due("21 at worst, or 27", x.sniff(), 2);
        x.nose(1, 0);
        due("12 at worst, or 15, or 18", x.sniff(), 3);
        SmellBorders one = valley("####/###.;1");
        one.source(PLAIN, 0, 7, 8);
        one.nose(7, 2);
        due("one is left wherever, a wall or not", one.sniff(), 0);
        SmellBorders frost = valley("#w../....;1");
        frost.frost(true);
        due("all are left wherever, a wall or not", frost.sniff(), 0);
        SmellBorders most = valley("..../....;1");
        most.frost(true);
        due("all 216 are left wherever", most.sniff(), 0);
    }

    private static void sniffAgain() {
        says("Terms", "of like ones the least.");
        SmellBorders x = valley("w.##/####;1");
        for (int i = 0; i < 5; i++) {
            due("9 at worst on 0 and 1, sniff() " + i, x.sniff(), 0);
            due("27 in all, unknown() " + i, x.unknown(0), 27);
        }
    }

    private static void noneToSniff() {
        says(23, "NONE: there are no such SOURCES.");
        due("no open cell", valley("ww##/####;1").sniff(), NONE);
        SmellBorders so = valley(".###/####;1");
        so.nose(0, NONE);
        due("the noses are so as it is known, but by no one more", so.sniff(), NONE);
        SmellBorders x = valley("..../....;1");
        x.nose(0, 0);
        x.nose(0, 1);
        due("no such sources", x.sniff(), NONE);
        due("it was done", x.count(15), 1);
        x.forget();
        due("all may be", x.sniff() >= 0 ? 1 : 0, 1);
    }

    private static void refusedSniff() {
        says(23, "STATE, as unknown().");
        refused("no VALLEY", SmellBorders::new, SmellBorders::sniff, STATE);
        refused("done 30 times", () -> asked(30), SmellBorders::sniff, STATE);
        due("done 29 times", asked(29).sniff() >= 0 ? 1 : 0, 1);
    }

    private static void sniffIsNoNose() {
        says(23, "SNIFF");
        SmellBorders x = busy();
        SmellBorders twin = busy();
        x.sniff();
        twin.unknown(1);
        alike("nothing but how often it was done", x, twin);
    }

    // ---- promise 24: days

    private static long nextSeed(long seed) {
        BigInteger next = BigInteger.valueOf(1103515245).multiply(BigInteger.valueOf(seed)).add(BigInteger.valueOf(12345));
        return next.mod(BigInteger.TWO.pow(31)).longValueExact();
    }

    private static long seedAfter(long seed, int draws) {
        long then = seed;
        for (int i = 0; i < draws; i++) {
            then = nextSeed(then);
        }
        return then;
    }

    private static void seedsWrap() {
        says("Terms", "DRAWS: the next SEED each time: 1103515245 times it and 12345, its rest by 2 to the 31");
        SmellBorders x = valley("..../....;1");
        due("of 0: 12345, and the next", x.days(1, 0, 1), 1406932606);
        for (int seed : new int[] {0, 1, 2, 65535, 65536, 1 << 30, MAX - 1, MAX}) {
            due("one hour of " + seed, x.days(1, seed, 1), seedAfter(seed, 2));
            due("two hours of " + seed, x.days(2, seed, 1), seedAfter(seed, 4));
            due("sixty hours of " + seed, x.days(60, seed, 1), seedAfter(seed, 120));
        }
    }

    private static SmellBorders party(int which) {
        SmellBorders x = valley(new String[] {"..../.w..;1", "..../....;2", ".#../...w;3"}[which]);
        x.source(VAT, which % 3, 0, 3 + which);
        x.source(CHEESE, 1, 3, 2);
        x.source(JASMINE, 2, 6, 9);
        x.source(PLAIN, (1 + which) % 3, 4, 4);
        x.source(VAT, 2 - which, 2, 2);
        if (which == 1) x.frost(true);
        if (which == 2) x.hour();
        x.wind(UP);
        return x;
    }

    /** The same days lived through by the calls that make them. */
    private static int lived(SmellBorders x, int hours, long seed) {
        int borders = 0;
        long drawn = seed;
        for (int hour = 0; hour < hours; hour++) {
            drawn = nextSeed(drawn);
            x.wind((int) (drawn / 65536 % 5));
            drawn = nextSeed(drawn);
            x.frost(drawn / 65536 % 6 == 0);
            borders += x.borders();
            x.hour();
        }
        return borders;
    }

    private static void hoursOfDays() {
        says("Terms", "so many HOURS: ahead of each the WIND by a DRAW of 5, FROST if a DRAW of 6 is 0 (else none); "
            + "then BORDERS are counted, then the HOUR ends.");
        for (int which = 0; which < 3; which++) {
            SmellBorders x = party(which);
            for (int seed = 0; seed < 40; seed++) {
                due("one hour of " + seed, x.days(1, seed, 0), lived(party(which), 1, seed));
                due("two hours of " + seed, x.days(2, seed, 0), lived(party(which), 2, seed));
                due("sixty hours of " + seed, x.days(60, seed, 0), lived(party(which), 60, seed));
            }
            due("sixty hours of the greatest", x.days(60, MAX, 0), lived(party(which), 60, MAX));
        }
        due("without sources", valley("..../....;1").days(60, 5, 0), 0);
    }

    private static void asTheyWouldBe() {
        says("Terms", "DAYS by a SEED, as they would be");
        SmellBorders x = busy();
        x.days(60, MAX, 0);
        x.days(1, 0, 1);
        alike("behind days()", x, busy());
    }

    private static void refusedDays() {
        says(24, "OUTSIDE: hours (1 to 60), seed (0 at least), what; STATE: no VALLEY.");
        Made[] all = {Sentences::busy, SmellBorders::new};
        for (Made made : all) {
            for (int hours : beyond(1, 60)) {
                refused("days(" + hours + ", 0, 0)", made, x -> x.days(hours, 0, 0), OUTSIDE);
            }
            for (int seed : new int[] {-1, -2, MIN, MIN + 1}) {
                refused("days(1, " + seed + ", 0)", made, x -> x.days(1, seed, 0), OUTSIDE);
            }
            for (int what : beyond(0, 1)) {
                refused("days(1, 0, " + what + ")", made, x -> x.days(1, 0, what), OUTSIDE);
            }
        }
        for (int what = 0; what <= 1; what++) {
            int of = what;
            refused("no VALLEY, days(1, 0, " + what + ")", SmellBorders::new, x -> x.days(1, 0, of), STATE);
            refused("no VALLEY, days(60, MAX, " + what + ")", SmellBorders::new, x -> x.days(60, MAX, of), STATE);
        }
        due("the last hours and seed", valley("..../....;1").days(60, MAX, 0), 0);
        due("the least hours and seed", valley("..../....;1").days(1, 0, 0), 0);
    }

    public static void main(String[] args) {
        eightAtMost();
        everyNoseCounts();
        noseParishes();
        refusedNoses();
        forgetAll();
        numbersOfUnknown();
        howManyUnknown();
        likeOnesStayKnown();
        noneUnknown();
        refusedUnknown();
        thirtyTimesTogether();
        refusedOnesAreNotDone();
        whereToSniff();
        sniffAgain();
        noneToSniff();
        refusedSniff();
        sniffIsNoNose();
        seedsWrap();
        hoursOfDays();
        asTheyWouldBe();
        refusedDays();
        end(20, 24);
    }
}
