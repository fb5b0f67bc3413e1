/** A valley whose parishes end where a smell does. The document, ../shared/DOC.md, promises each call. */
public final class SmellBorders {
    public static final int NONE = -1, UNKNOWN = -101, OUTSIDE = -102, STATE = -103, FULL = -104;

    private static final int CELLS = 8;
    private static final int ROW = 4;
    private static final int PARISHES = 3;
    private static final int KINDS = 5;
    private static final int MOST_STRENGTH = 9;
    private static final int MOST_SOURCES = 6;
    private static final int MOST_PEOPLE = 9;
    private static final int MOST_NOSES = 8;
    private static final int MOST_HELD = 24;
    private static final int MOST_DAYS_HOURS = 60;
    private static final int MOST_WALLS_DONE = 20;
    private static final int MOST_ASKED = 30;
    private static final int WAYS = 4;
    private static final int COUNTS = 16;
    private static final int CANDIDATES = CELLS * PARISHES * MOST_STRENGTH;
    /** What a nose may find in a cell: nobody or one of the parishes. */
    private static final int FINDINGS = PARISHES + 1;

    private final Page page = new Page();
    private final Valley valley = new Valley();
    private final Source[] sources = new Source[MOST_SOURCES];
    private final Standing now = new Standing();
    private final Standing kept = new Standing();
    /** What would be is tried out here, so that what is stays untouched. */
    private final Standing ahead = new Standing();
    private final Air air = new Air();
    /** How much of one source alone is in each cell. */
    private final int[] left = new int[CELLS];
    private final int[] holder = new int[CELLS];
    private final int[] held = new int[CELLS];
    private final int[] findings = new int[CELLS * FINDINGS];
    private boolean hasImage;
    private int valleysRead;
    private int wallsDone;
    private int asked;

    public SmellBorders() {
    }

    // ---- the valley

    public int letter(int code) {
        if (code < 1 || code > 126) return OUTSIDE;
        if (page.isFull()) return FULL;
        page.append(code);
        return page.many;
    }

    public int blank() {
        int had = page.many;
        page.many = 0;
        return had;
    }

    public int fault() {
        return page.firstWrong();
    }

    public int valley() {
        if (!page.isValley()) return STATE;
        valley.take(page);
        page.many = 0;
        now.copyFrom(new Standing());
        hasImage = false;
        valleysRead++;
        return valley.open;
    }

    public int cell(int cell, int what) {
        if (!isCell(cell)) return UNKNOWN;
        if (what < 0 || what > 4) return OUTSIDE;
        settleNow();
        return tellOfCell(cell, what);
    }

    public int borders() {
        settleNow();
        return air.countBorders();
    }

    // ---- sources

    public int source(int kind, int parish, int cell, int strength) {
        if (kind < 0 || kind >= KINDS || !isParish(parish)) return OUTSIDE;
        if (strength < 1 || strength > MOST_STRENGTH) return OUTSIDE;
        if (!isCell(cell)) return UNKNOWN;
        if (!valley.isOpen(cell)) return STATE;
        if (now.sources >= MOST_SOURCES) return FULL;
        sources[now.sources] = make(kind, parish, cell, strength);
        return now.addSource();
    }

    public int about(int source, int what) {
        Source s = find(source);
        if (s == null) return UNKNOWN;
        if (what >= 0 && what <= 7) return tellOfSource(s, source, what);
        if (what < 10 || what >= 10 + CELLS) return OUTSIDE;
        if (!now.smells(s, source)) return 0;
        valley.spread(s.cell, s.force(now.burnt[source]), s.ease(), now.wind, 0, left);
        return left[what - 10];
    }

    public int as(int source, int kind) {
        Source s = find(source);
        if (s == null) return UNKNOWN;
        if (kind < 0 || kind >= KINDS) return OUTSIDE;
        return isOfKind(s, kind) ? source : NONE;
    }

    public int burn(int source, boolean is) {
        if (find(source) == null) return UNKNOWN;
        boolean did = now.burns[source];
        now.burns[source] = is;
        return bit(did);
    }

    public int wind(int wind) {
        if (wind < 0 || wind > WAYS) return OUTSIDE;
        if (!valley.isThere()) return STATE;
        int was = now.wind;
        now.wind = wind;
        return was;
    }

    public int frost(boolean is) {
        if (!valley.isThere()) return STATE;
        boolean was = now.frost;
        now.frost = is;
        return bit(was);
    }

    public int people(int cell, int many) {
        if (!isCell(cell)) return UNKNOWN;
        if (many < 0 || many > MOST_PEOPLE) return OUTSIDE;
        if (valley.isWall(cell)) return STATE;
        int did = now.people[cell];
        now.people[cell] = many;
        return did;
    }

    public int dusk() {
        if (!valley.isThere()) return STATE;
        settleNow();
        int together = 0;
        int nobodys = 0;
        for (int cell = 0; cell < CELLS; cell++) {
            int parish = air.whose[cell];
            if (parish == NONE) {
                nobodys += now.people[cell];
            } else {
                now.taxes[parish] += now.people[cell];
                together += now.people[cell];
            }
        }
        for (int parish = 0; parish < PARISHES; parish++) {
            now.taxes[parish] += nobodys / 2;
        }
        return together + PARISHES * (nobodys / 2);
    }

    public int hour() {
        if (!valley.isThere()) return STATE;
        now.endHour();
        return now.hour;
    }

    // ---- what would be

    public int weakest(int cell, int parish, int what) {
        if (!isCell(cell)) return UNKNOWN;
        if (!isParish(parish) || !isZeroOrOne(what)) return OUTSIDE;
        settleNow();
        if (air.whose[cell] == parish) return what == 0 ? 0 : NONE;
        for (int strength = 1; strength <= MOST_STRENGTH; strength++) {
            for (int from = 0; from < CELLS; from++) {
                if (valley.isOpen(from) && wouldWin(cell, from, strength)) {
                    return what == 0 ? strength : from;
                }
            }
        }
        return NONE;
    }

    public int walls(int cell, int parish, int what) {
        if (!isCell(cell)) return UNKNOWN;
        if (!isParish(parish) || !isZeroOrOne(what)) return OUTSIDE;
        if (wallsDone >= MOST_WALLS_DONE) return STATE;
        wallsDone++;
        int fewest = fewestWalls(cell, parish);
        if (fewest == NONE) return NONE;
        return what == 0 ? Integer.bitCount(fewest) : fewest;
    }

    public int hold(int cell, int parish) {
        if (!isCell(cell)) return UNKNOWN;
        if (!isParish(parish)) return OUTSIDE;
        watchHolders();
        return heldBy(cell, parish);
    }

    // ---- noses

    public int nose(int cell, int parish) {
        if (!isCell(cell)) return UNKNOWN;
        if (parish != NONE && !isParish(parish)) return OUTSIDE;
        if (now.noses >= MOST_NOSES) return FULL;
        now.addNose(cell, parish);
        return now.noses;
    }

    public int forget() {
        int were = now.noses;
        now.noses = 0;
        return were;
    }

    public int unknown(int what) {
        if (!isZeroOrOne(what)) return OUTSIDE;
        if (!mayAsk()) return STATE;
        asked++;
        settleNow();
        int many = 0;
        int least = NONE;
        for (int candidate = 0; candidate < CANDIDATES; candidate++) {
            if (fitsNoses(candidate)) {
                many++;
                if (least == NONE) least = candidate;
            }
        }
        return what == 0 ? many : least;
    }

    public int sniff() {
        if (!mayAsk()) return STATE;
        asked++;
        settleNow();
        return tallyFindings() == 0 ? NONE : cellOfFewestLeft();
    }

    public int days(int hours, int seed, int what) {
        if (hours < 1 || hours > MOST_DAYS_HOURS || seed < 0 || !isZeroOrOne(what)) return OUTSIDE;
        if (!valley.isThere()) return STATE;
        ahead.copyFrom(now);
        int drawn = seed;
        int borders = 0;
        for (int hour = 0; hour < hours; hour++) {
            drawn = nextSeed(drawn);
            ahead.wind = draw(drawn, WAYS + 1);
            drawn = nextSeed(drawn);
            ahead.frost = draw(drawn, 6) == 0;
            air.settle(valley, sources, ahead, 0);
            borders += air.countBorders();
            ahead.endHour();
        }
        return what == 0 ? borders : drawn;
    }

    // ---- what is told of all

    public int image() {
        if (!valley.isThere()) return STATE;
        kept.copyFrom(now);
        hasImage = true;
        return now.hour;
    }

    public int restore() {
        if (!hasImage) return STATE;
        now.copyFrom(kept);
        return now.hour;
    }

    public int count(int what) {
        if (what < 0 || what >= COUNTS) return OUTSIDE;
        settleNow();
        return tellOfAll(what);
    }

    public long digest() {
        long h = 811;
        if (valley.isThere()) {
            watchHolders();
            settleNow();
            h = digestCells(h);
        } else {
            settleNow();
        }
        for (int source = 0; source < now.sources; source++) {
            h = digestSource(h, source);
        }
        h = mix(h, air.countBorders());
        for (int place = 0; place < page.many; place++) {
            h = mix(h, page.letters[place]);
        }
        for (int what = 0; what < COUNTS; what++) {
            h = mix(h, tellOfAll(what));
        }
        return h;
    }

    // ---- what the calls share

    private static boolean isParish(int parish) {
        return parish >= 0 && parish < PARISHES;
    }

    private static boolean isZeroOrOne(int what) {
        return what == 0 || what == 1;
    }

    private static int bit(boolean is) {
        return is ? 1 : 0;
    }

    private static long mix(long h, long number) {
        return 31 * h + number;
    }

    private static int nextSeed(int seed) {
        return (int) ((1103515245L * seed + 12345L) % 2147483648L);
    }

    /** The divisor is one of the two that days() names, never 0. */
    private static int draw(int seed, int of) {
        return of > 0 ? seed / 65536 % of : 0;
    }

    private static Source make(int kind, int parish, int cell, int strength) {
        switch (kind) {
            case 1: return new Cheese(parish, cell, strength);
            case 2: return new Jasmine(parish, cell, strength);
            case 3: return new Tannery(parish, cell, strength);
            case 4: return new Vat(parish, cell, strength);
            default: return new Source(parish, cell, strength);
        }
    }

    private static boolean isOfKind(Source s, int kind) {
        switch (kind) {
            case 1: return s instanceof Cheese;
            case 2: return s instanceof Jasmine;
            case 3: return s instanceof Tannery;
            case 4: return s instanceof Vat;
            default: return true;
        }
    }

    /** Without a valley no number names a cell. */
    private boolean isCell(int cell) {
        return valley.isThere() && cell >= 0 && cell < CELLS;
    }

    /** The source of that number, or null. */
    private Source find(int source) {
        return source >= 0 && source < now.sources ? sources[source] : null;
    }

    private void settleNow() {
        air.settle(valley, sources, now, 0);
    }

    private boolean mayAsk() {
        return valley.isThere() && asked < MOST_ASKED;
    }

    /** Needs settled air. */
    private int tellOfCell(int cell, int what) {
        switch (what) {
            case 0: return valley.ground[cell];
            case 1: return air.whose[cell];
            case 2: return air.most[cell];
            case 3: return now.people[cell];
            default: return air.by[cell];
        }
    }

    private int tellOfSource(Source s, int source, int what) {
        switch (what) {
            case 0: return s.kindNumber();
            case 1: return s.parish;
            case 2: return s.cell;
            case 3: return s.strength;
            case 4: return bit(now.burns[source]);
            case 5: return now.burnt[source];
            case 6: return s.force(now.burnt[source]);
            default: return bit(now.smells(s, source));
        }
    }

    /** Needs settled air. */
    private int tellOfAll(int what) {
        switch (what) {
            case 0: return valley.open;
            case 1: return valley.fade;
            case 2: return now.sources;
            case 3: return now.countBurning();
            case 4: return now.wind;
            case 5: return bit(now.frost);
            case 6: return now.hour;
            case 7:
            case 8:
            case 9: return now.taxes[what - 7];
            case 10: return air.countOwned();
            case 11: return now.noses;
            case 12: return page.many;
            case 13: return valleysRead;
            case 14: return wallsDone;
            default: return asked;
        }
    }

    /** Needs settled air and watched holders. */
    private long digestCells(long before) {
        long h = before;
        for (int cell = 0; cell < CELLS; cell++) {
            for (int what = 0; what <= 4; what++) {
                h = mix(h, tellOfCell(cell, what));
            }
            for (int parish = 0; parish < PARISHES; parish++) {
                h = mix(h, heldBy(cell, parish));
            }
        }
        return h;
    }

    private long digestSource(long before, int source) {
        Source s = find(source);
        if (s == null) return before;
        long h = before;
        for (int what = 0; what <= 7; what++) {
            h = mix(h, tellOfSource(s, source, what));
        }
        return h;
    }

    /** One more source of kind 0, of a strength, on a cell: left has what there is of it. */
    private void spreadOneMore(int from, int strength) {
        valley.spread(from, now.frost ? 0 : strength, 0, now.wind, 0, left);
    }

    /** One more source has the greatest number, so it must smell more than all others; needs settled air. */
    private boolean wouldWin(int cell, int from, int strength) {
        spreadOneMore(from, strength);
        return left[cell] > air.most[cell];
    }

    /** The bits of the fewest cells, of like ones the least bits, or NONE. */
    private int fewestWalls(int cell, int parish) {
        int free = cellsFreeForWalls(cell);
        int fewest = NONE;
        for (int bits = 0; bits < 1 << CELLS; bits++) {
            boolean isFewer = fewest == NONE || Integer.bitCount(bits) < Integer.bitCount(fewest);
            if ((bits & ~free) == 0 && isFewer) {
                air.settle(valley, sources, now, bits);
                if (air.whose[cell] != parish) fewest = bits;
            }
        }
        return fewest;
    }

    private int cellsFreeForWalls(int except) {
        int free = 0;
        for (int cell = 0; cell < CELLS; cell++) {
            if (cell != except && !valley.isWall(cell)) free |= 1 << cell;
        }
        for (int source = 0; source < now.sources; source++) {
            Source s = find(source);
            if (s != null) free &= ~(1 << s.cell);
        }
        return free;
    }

    /** Finds for all cells at once who has each now and for how many hours yet. */
    private void watchHolders() {
        ahead.copyFrom(now);
        for (int hour = 0; hour < MOST_HELD; hour++) {
            air.settle(valley, sources, ahead, 0);
            for (int cell = 0; cell < CELLS; cell++) {
                if (hour == 0) {
                    holder[cell] = air.whose[cell];
                    held[cell] = 0;
                }
                boolean isUnbroken = held[cell] == hour;
                if (isUnbroken && air.whose[cell] == holder[cell]) held[cell]++;
            }
            ahead.endHour();
        }
    }

    /** Needs watched holders. */
    private int heldBy(int cell, int parish) {
        return holder[cell] == parish ? held[cell] : 0;
    }

    /** Whether one more source, numbered as unknown() tells, makes all noses so; then left is its. Needs settled air. */
    private boolean fitsNoses(int candidate) {
        int from = candidate / (PARISHES * MOST_STRENGTH);
        if (!valley.isOpen(from)) return false;
        spreadOneMore(from, candidate % MOST_STRENGTH + 1);
        int parish = parishOf(candidate);
        for (int nose = 0; nose < now.noses; nose++) {
            if (whoseWith(now.noseCells[nose], parish) != now.noseParishes[nose]) return false;
        }
        return true;
    }

    private static int parishOf(int candidate) {
        return candidate / MOST_STRENGTH % PARISHES;
    }

    /** Whose a cell would be with that in left, of a parish, as one more; needs settled air. */
    private int whoseWith(int cell, int parish) {
        return left[cell] > air.most[cell] ? parish : air.whose[cell];
    }

    /** How many candidates fit the noses; findings has for each cell how many of them leave it whose. */
    private int tallyFindings() {
        for (int i = 0; i < findings.length; i++) {
            findings[i] = 0;
        }
        int many = 0;
        for (int candidate = 0; candidate < CANDIDATES; candidate++) {
            if (fitsNoses(candidate)) {
                many++;
                for (int cell = 0; cell < CELLS; cell++) {
                    int found = whoseWith(cell, parishOf(candidate));
                    findings[cell * FINDINGS + found + 1]++;
                }
            }
        }
        return many;
    }

    private int cellOfFewestLeft() {
        int best = NONE;
        int fewest = CANDIDATES + 1;
        for (int cell = 0; cell < CELLS; cell++) {
            int worst = 0;
            for (int found = 0; found < FINDINGS; found++) {
                worst = Math.max(worst, findings[cell * FINDINGS + found]);
            }
            if (worst < fewest) {
                fewest = worst;
                best = cell;
            }
        }
        return best;
    }

    /** The letters that are to be read as a valley. */
    private static final class Page {
        static final int MOST_LETTERS = 14;
        static final int VALLEY_LETTERS = 11;

        final int[] letters = new int[MOST_LETTERS];
        int many;

        boolean isFull() {
            return many >= MOST_LETTERS;
        }

        void append(int code) {
            if (!isFull()) letters[many++] = code;
        }

        int firstWrong() {
            for (int place = 0; place < many; place++) {
                if (!fits(place, letters[place])) return place;
            }
            return many;
        }

        boolean isValley() {
            return many == VALLEY_LETTERS && firstWrong() == many;
        }

        /** The second row stands behind the sign that parts the rows. */
        static int placeOf(int cell) {
            return cell < ROW ? cell : cell + 1;
        }

        static boolean fits(int place, int code) {
            if (place >= VALLEY_LETTERS) return false;
            if (place == ROW) return code == '/';
            if (place == VALLEY_LETTERS - 2) return code == ';';
            if (place == VALLEY_LETTERS - 1) return code >= '1' && code <= '3';
            return code == '.' || code == '#' || code == 'w';
        }
    }

    /** The ground on which smells spread; there is none while fade is 0. */
    private static final class Valley {
        static final int OPEN = 0;
        static final int WALL = 1;
        static final int WATER = 2;

        final int[] ground = new int[CELLS];
        int open;
        int fade;

        boolean isThere() {
            return fade > 0;
        }

        boolean isOpen(int cell) {
            return ground[cell] == OPEN;
        }

        boolean isWall(int cell) {
            return ground[cell] == WALL;
        }

        /** The page must be that of a valley. */
        void take(Page page) {
            open = 0;
            for (int cell = 0; cell < CELLS; cell++) {
                int sign = page.letters[Page.placeOf(cell)];
                ground[cell] = sign == '#' ? WALL : sign == 'w' ? WATER : OPEN;
                if (sign == '.') open++;
            }
            fade = page.letters[Page.VALLEY_LETTERS - 1] - '0';
        }

        /** The cell beside another by a way, numbered as the wind that blows so, or NONE. */
        static int beside(int cell, int way) {
            switch (way) {
                case 1: return cell % ROW < ROW - 1 ? cell + 1 : NONE;
                case 2: return cell % ROW > 0 ? cell - 1 : NONE;
                case 3: return cell < ROW ? cell + ROW : NONE;
                case 4: return cell >= ROW ? cell - ROW : NONE;
                default: return NONE;
            }
        }

        static int opposite(int way) {
            return way % 2 == 1 ? way + 1 : way - 1;
        }

        int loss(int into, int way, int ease, int wind) {
            int loss = fade - ease;
            if (wind == way) loss--;
            if (wind == opposite(way)) loss++;
            if (ground[into] == WATER) loss += 2;
            return Math.max(loss, 0);
        }

        /** Fills left by a force that spreads from a cell; the bits of walls are walls besides the ground's. */
        void spread(int from, int force, int ease, int wind, int walls, int[] left) {
            for (int cell = 0; cell < CELLS; cell++) {
                left[cell] = 0;
            }
            left[from] = force;
            boolean grew = true;
            // The best way enters no cell twice, so that many rounds always do.
            for (int round = 0; round < CELLS && grew; round++) {
                grew = false;
                for (int cell = 0; cell < CELLS; cell++) {
                    if (left[cell] > 0 && spreadOn(cell, ease, wind, walls, left)) grew = true;
                }
            }
        }

        /** One step from a cell to all beside it: whether there is more in one of them. */
        private boolean spreadOn(int cell, int ease, int wind, int walls, int[] left) {
            boolean grew = false;
            for (int way = 1; way <= WAYS; way++) {
                int into = beside(cell, way);
                if (into != NONE && !isWall(into) && (walls >> into & 1) == 0) {
                    int rest = left[cell] - loss(into, way, ease, wind);
                    if (rest > left[into]) {
                        left[into] = rest;
                        grew = true;
                    }
                }
            }
            return grew;
        }
    }

    /** A source of kind 0, and what all kinds share. It never changes: whether and how long it burns stands apart. */
    private static class Source {
        final int parish;
        final int cell;
        final int strength;

        Source(int parish, int cell, int strength) {
            this.parish = parish;
            this.cell = cell;
            this.strength = strength;
        }

        int kindNumber() {
            return 0;
        }

        int force(int burnt) {
            return strength;
        }

        /** Whether it smells if it burns. */
        boolean smellsAt(int hour, boolean frost) {
            return !frost;
        }

        /** How much less than others it loses with each step. */
        int ease() {
            return 0;
        }
    }

    private static final class Cheese extends Source {
        Cheese(int parish, int cell, int strength) {
            super(parish, cell, strength);
        }

        int kindNumber() {
            return 1;
        }

        int force(int burnt) {
            return Math.min(strength + burnt, MOST_STRENGTH);
        }
    }

    private static final class Jasmine extends Source {
        Jasmine(int parish, int cell, int strength) {
            super(parish, cell, strength);
        }

        int kindNumber() {
            return 2;
        }

        boolean smellsAt(int hour, boolean frost) {
            return !frost && hour % 2 == 0;
        }
    }

    private static class Tannery extends Source {
        Tannery(int parish, int cell, int strength) {
            super(parish, cell, strength);
        }

        int kindNumber() {
            return 3;
        }

        int ease() {
            return 1;
        }
    }

    private static final class Vat extends Tannery {
        Vat(int parish, int cell, int strength) {
            super(parish, cell, strength);
        }

        int kindNumber() {
            return 4;
        }

        boolean smellsAt(int hour, boolean frost) {
            return true;
        }
    }

    /** How all stands at one time: just what an image keeps. */
    private static final class Standing {
        int sources;
        final boolean[] burns = new boolean[MOST_SOURCES];
        final int[] burnt = new int[MOST_SOURCES];
        int wind;
        boolean frost;
        int hour;
        final int[] people = new int[CELLS];
        final int[] taxes = new int[PARISHES];
        int noses;
        final int[] noseCells = new int[MOST_NOSES];
        final int[] noseParishes = new int[MOST_NOSES];

        void copyFrom(Standing other) {
            sources = other.sources;
            for (int source = 0; source < MOST_SOURCES; source++) {
                burns[source] = other.burns[source];
                burnt[source] = other.burnt[source];
            }
            wind = other.wind;
            frost = other.frost;
            hour = other.hour;
            System.arraycopy(other.people, 0, people, 0, CELLS);
            System.arraycopy(other.taxes, 0, taxes, 0, PARISHES);
            noses = other.noses;
            System.arraycopy(other.noseCells, 0, noseCells, 0, MOST_NOSES);
            System.arraycopy(other.noseParishes, 0, noseParishes, 0, MOST_NOSES);
        }

        /** The number of the new one; the caller looks whether there is room. */
        int addSource() {
            if (sources >= MOST_SOURCES) return NONE;
            burns[sources] = true;
            burnt[sources] = 0;
            return sources++;
        }

        void addNose(int cell, int parish) {
            if (noses >= MOST_NOSES) return;
            noseCells[noses] = cell;
            noseParishes[noses] = parish;
            noses++;
        }

        boolean smells(Source s, int source) {
            return burns[source] && s.smellsAt(hour, frost);
        }

        int countBurning() {
            int many = 0;
            for (int source = 0; source < sources; source++) {
                if (burns[source]) many++;
            }
            return many;
        }

        void endHour() {
            for (int source = 0; source < sources; source++) {
                if (burns[source]) burnt[source]++;
            }
            hour++;
        }
    }

    /** What smells most in each cell, and so whose it is. */
    private static final class Air {
        final int[] most = new int[CELLS];
        final int[] by = new int[CELLS];
        final int[] whose = new int[CELLS];
        private final int[] left = new int[CELLS];

        void settle(Valley valley, Source[] sources, Standing at, int walls) {
            for (int cell = 0; cell < CELLS; cell++) {
                most[cell] = 0;
                by[cell] = NONE;
                whose[cell] = NONE;
            }
            for (int source = 0; source < at.sources; source++) {
                Source s = sources[source];
                if (s != null && at.smells(s, source)) {
                    valley.spread(s.cell, s.force(at.burnt[source]), s.ease(), at.wind, walls, left);
                    mingle(s.parish, source);
                }
            }
        }

        /** Of like ones the first stays, so sources must come by their numbers. */
        private void mingle(int parish, int source) {
            for (int cell = 0; cell < CELLS; cell++) {
                if (left[cell] > most[cell]) {
                    most[cell] = left[cell];
                    by[cell] = source;
                    whose[cell] = parish;
                }
            }
        }

        int countBorders() {
            int borders = 0;
            for (int cell = 0; cell < CELLS; cell++) {
                // To the right and down alone, so that no pair counts twice.
                if (isBorder(cell, Valley.beside(cell, 1))) borders++;
                if (isBorder(cell, Valley.beside(cell, 3))) borders++;
            }
            return borders;
        }

        private boolean isBorder(int cell, int other) {
            if (other == NONE || whose[cell] == NONE || whose[other] == NONE) return false;
            return whose[cell] != whose[other];
        }

        int countOwned() {
            int owned = 0;
            for (int cell = 0; cell < CELLS; cell++) {
                if (whose[cell] != NONE) owned++;
            }
            return owned;
        }
    }
}
