import java.util.ArrayList;
import java.util.List;
import java.util.Random;

/**
 * Random runs of calls, each answered by SmellBorders and by a second program that follows the document word by word
 * and in other ways: smells by trying every way that enters no cell twice, images by copies, no rows used again.
 */
public final class OracleTest {
    private static final int NONE = -1, UNKNOWN = -101, OUTSIDE = -102, STATE = -103, FULL = -104;
    private static final int RUNS = 400;
    private static final int CALLS = 512;

    private record Smeller(int kind, int parish, int cell, int strength) {
    }

    private static final class Now {
        List<Smeller> smellers = new ArrayList<>();
        List<Boolean> burns = new ArrayList<>();
        List<Integer> burnt = new ArrayList<>();
        int wind;
        boolean frost;
        int hour;
        int[] people = new int[8];
        int[] taxes = new int[3];
        List<int[]> noses = new ArrayList<>();

        Now copy() {
            Now other = new Now();
            other.smellers = new ArrayList<>(smellers);
            other.burns = new ArrayList<>(burns);
            other.burnt = new ArrayList<>(burnt);
            other.wind = wind;
            other.frost = frost;
            other.hour = hour;
            other.people = people.clone();
            other.taxes = taxes.clone();
            other.noses = new ArrayList<>(noses);
            return other;
        }

        void add(Smeller smeller) {
            smellers.add(smeller);
            burns.add(true);
            burnt.add(0);
        }

        void endHour() {
            for (int i = 0; i < burnt.size(); i++) {
                if (burns.get(i)) burnt.set(i, burnt.get(i) + 1);
            }
            hour++;
        }

        int force(int i) {
            Smeller s = smellers.get(i);
            return s.kind == 1 ? Math.min(9, s.strength + burnt.get(i)) : s.strength;
        }

        boolean smells(int i) {
            int kind = smellers.get(i).kind;
            if (!burns.get(i) || frost && kind != 4) return false;
            return kind != 2 || hour % 2 == 0;
        }
    }

    /** The second program. A call is its name and three or four numbers. */
    private static final class Model {
        String page = "";
        String text;
        Now now = new Now();
        Now image;
        int read;
        int walled;
        int asked;

        static char sign(String ground, int cell) {
            return ground.charAt(cell < 4 ? cell : cell + 1);
        }

        static boolean areBeside(int a, int b) {
            return Math.abs(a / 4 - b / 4) + Math.abs(a % 4 - b % 4) == 1;
        }

        static int wayOf(int from, int into) {
            if (into == from + 1) return 1;
            if (into == from - 1) return 2;
            return into > from ? 3 : 4;
        }

        static int lossOf(String ground, Now at, int kind, int from, int into) {
            int loss = ground.charAt(10) - '0';
            if (kind >= 3) loss--;
            int way = wayOf(from, into);
            if (at.wind == way) loss--;
            if (at.wind != 0 && at.wind != way && (at.wind - 1) / 2 == (way - 1) / 2) loss++;
            if (sign(ground, into) == 'w') loss += 2;
            return loss < 0 ? 0 : loss;
        }

        static int best(String ground, Now at, int kind, int from, int goal, int rest, int gone) {
            if (from == goal) return Math.max(rest, 0);
            int most = 0;
            for (int into = 0; into < 8; into++) {
                if (areBeside(from, into) && (gone >> into & 1) == 0 && sign(ground, into) != '#') {
                    int left = rest - lossOf(ground, at, kind, from, into);
                    most = Math.max(most, best(ground, at, kind, into, goal, left, gone | 1 << into));
                }
            }
            return most;
        }

        static int smell(String ground, Now at, int i, int cell) {
            if (!at.smells(i)) return 0;
            Smeller s = at.smellers.get(i);
            return best(ground, at, s.kind, s.cell, cell, at.force(i), 1 << s.cell);
        }

        static int byWhich(String ground, Now at, int cell) {
            int by = NONE;
            int most = 0;
            for (int i = 0; i < at.smellers.size(); i++) {
                int here = smell(ground, at, i, cell);
                if (here > most) {
                    most = here;
                    by = i;
                }
            }
            return by;
        }

        static int whose(String ground, Now at, int cell) {
            int by = byWhich(ground, at, cell);
            return by == NONE ? NONE : at.smellers.get(by).parish;
        }

        static int borders(String ground, Now at) {
            int[] whose = new int[8];
            for (int cell = 0; cell < 8; cell++) {
                whose[cell] = whose(ground, at, cell);
            }
            int borders = 0;
            for (int a = 0; a < 8; a++) {
                for (int b = a + 1; b < 8; b++) {
                    boolean both = whose[a] != NONE && whose[b] != NONE;
                    if (areBeside(a, b) && both && whose[a] != whose[b]) borders++;
                }
            }
            return borders;
        }

        boolean names(int cell) {
            return text != null && cell >= 0 && cell <= 7;
        }

        boolean namesSource(int source) {
            return source >= 0 && source < now.smellers.size();
        }

        static boolean in(int number, int from, int to) {
            return number >= from && number <= to;
        }

        int faultOf() {
            int longest = 0;
            for (int end = 1; end <= page.length(); end++) {
                String rest = "..../....;1".substring(Math.min(end, 11));
                if ((page.substring(0, end) + rest).matches("[.#w]{4}/[.#w]{4};[123]")) longest = end;
                else break;
            }
            return longest;
        }

        int readValley() {
            if (!page.matches("[.#w]{4}/[.#w]{4};[123]")) return STATE;
            text = page;
            page = "";
            now = new Now();
            image = null;
            read++;
            return openCells();
        }

        int openCells() {
            return text == null ? 0 : (int) text.chars().filter(c -> c == '.').count();
        }

        int ofCell(int cell, int what) {
            if (!names(cell)) return UNKNOWN;
            if (!in(what, 0, 4)) return OUTSIDE;
            int by = byWhich(text, now, cell);
            switch (what) {
                case 0: return ".#w".indexOf(sign(text, cell));
                case 1: return whose(text, now, cell);
                case 2: return by == NONE ? 0 : smell(text, now, by, cell);
                case 3: return now.people[cell];
                default: return by;
            }
        }

        int newSource(int kind, int parish, int cell, int strength) {
            if (!in(kind, 0, 4) || !in(parish, 0, 2) || !in(strength, 1, 9)) return OUTSIDE;
            if (!names(cell)) return UNKNOWN;
            if (sign(text, cell) != '.') return STATE;
            if (now.smellers.size() == 6) return FULL;
            now.add(new Smeller(kind, parish, cell, strength));
            return now.smellers.size() - 1;
        }

        int ofSource(int source, int what) {
            if (!namesSource(source)) return UNKNOWN;
            Smeller s = now.smellers.get(source);
            switch (what) {
                case 0: return s.kind;
                case 1: return s.parish;
                case 2: return s.cell;
                case 3: return s.strength;
                case 4: return now.burns.get(source) ? 1 : 0;
                case 5: return now.burnt.get(source);
                case 6: return now.force(source);
                case 7: return now.smells(source) ? 1 : 0;
                default: return in(what, 10, 17) ? smell(text, now, source, what - 10) : OUTSIDE;
            }
        }

        int cast(int source, int kind) {
            if (!namesSource(source)) return UNKNOWN;
            if (!in(kind, 0, 4)) return OUTSIDE;
            int is = now.smellers.get(source).kind;
            return kind == 0 || kind == is || is == 4 && kind == 3 ? source : NONE;
        }

        int setBurning(int source, boolean is) {
            if (!namesSource(source)) return UNKNOWN;
            return now.burns.set(source, is) ? 1 : 0;
        }

        int setWind(int wind) {
            if (!in(wind, 0, 4)) return OUTSIDE;
            if (text == null) return STATE;
            int was = now.wind;
            now.wind = wind;
            return was;
        }

        int setFrost(boolean is) {
            if (text == null) return STATE;
            int was = now.frost ? 1 : 0;
            now.frost = is;
            return was;
        }

        int setPeople(int cell, int many) {
            if (!names(cell)) return UNKNOWN;
            if (!in(many, 0, 9)) return OUTSIDE;
            if (sign(text, cell) == '#') return STATE;
            int did = now.people[cell];
            now.people[cell] = many;
            return did;
        }

        int tax() {
            if (text == null) return STATE;
            int together = 0;
            for (int parish = 0; parish < 3; parish++) {
                int its = 0;
                int nobodys = 0;
                for (int cell = 0; cell < 8; cell++) {
                    int whose = whose(text, now, cell);
                    if (whose == parish) its += now.people[cell];
                    if (whose == NONE) nobodys += now.people[cell];
                }
                now.taxes[parish] += its + nobodys / 2;
                together += its + nobodys / 2;
            }
            return together;
        }

        int endHour() {
            if (text == null) return STATE;
            now.endHour();
            return now.hour;
        }

        Now withOneMore(int cell, int parish, int strength) {
            Now more = now.copy();
            more.add(new Smeller(0, parish, cell, strength));
            return more;
        }

        int findWeakest(int cell, int parish, int what) {
            if (!names(cell)) return UNKNOWN;
            if (!in(parish, 0, 2) || !in(what, 0, 1)) return OUTSIDE;
            if (whose(text, now, cell) == parish) return what == 0 ? 0 : NONE;
            for (int strength = 1; strength <= 9; strength++) {
                for (int on = 0; on < 8; on++) {
                    boolean open = sign(text, on) == '.';
                    if (open && whose(text, withOneMore(on, parish, strength), cell) == parish) {
                        return what == 0 ? strength : on;
                    }
                }
            }
            return NONE;
        }

        String withWalls(int bits) {
            StringBuilder ground = new StringBuilder(text);
            for (int cell = 0; cell < 8; cell++) {
                if ((bits >> cell & 1) == 1) ground.setCharAt(cell < 4 ? cell : cell + 1, '#');
            }
            return ground.toString();
        }

        boolean mayBeWalls(int bits, int cell) {
            boolean may = (bits >> cell & 1) == 0;
            for (Smeller s : now.smellers) {
                if ((bits >> s.cell & 1) == 1) may = false;
            }
            for (int wall = 0; wall < 8; wall++) {
                if (sign(text, wall) == '#' && (bits >> wall & 1) == 1) may = false;
            }
            return may;
        }

        int findWalls(int cell, int parish, int what) {
            if (!names(cell)) return UNKNOWN;
            if (!in(parish, 0, 2) || !in(what, 0, 1)) return OUTSIDE;
            if (walled == 20) return STATE;
            walled++;
            for (int many = 0; many <= 8; many++) {
                for (int bits = 0; bits < 256; bits++) {
                    boolean fits = Integer.bitCount(bits) == many && mayBeWalls(bits, cell);
                    if (fits && whose(withWalls(bits), now, cell) != parish) return what == 0 ? many : bits;
                }
            }
            return NONE;
        }

        int findHold(int cell, int parish) {
            if (!names(cell)) return UNKNOWN;
            if (!in(parish, 0, 2)) return OUTSIDE;
            Now later = now.copy();
            int hours = 0;
            while (hours < 24 && whose(text, later, cell) == parish) {
                hours++;
                later.endHour();
            }
            return hours;
        }

        int addNose(int cell, int parish) {
            if (!names(cell)) return UNKNOWN;
            if (!in(parish, -1, 2)) return OUTSIDE;
            if (now.noses.size() == 8) return FULL;
            now.noses.add(new int[] {cell, parish});
            return now.noses.size();
        }

        int forgetAll() {
            int were = now.noses.size();
            now.noses.clear();
            return were;
        }

        List<Integer> unknownSources(List<int[]> noses) {
            List<Integer> such = new ArrayList<>();
            for (int cell = 0; cell < 8; cell++) {
                for (int parish = 0; parish < 3; parish++) {
                    for (int strength = 1; strength <= 9; strength++) {
                        boolean so = sign(text, cell) == '.';
                        Now more = withOneMore(cell, parish, strength);
                        for (int i = 0; so && i < noses.size(); i++) {
                            so = whose(text, more, noses.get(i)[0]) == noses.get(i)[1];
                        }
                        if (so) such.add(27 * cell + 9 * parish + strength - 1);
                    }
                }
            }
            return such;
        }

        int findUnknown(int what) {
            if (!in(what, 0, 1)) return OUTSIDE;
            if (text == null || asked == 30) return STATE;
            asked++;
            List<Integer> such = unknownSources(now.noses);
            if (what == 0) return such.size();
            return such.isEmpty() ? NONE : such.get(0);
        }

        int findSniff() {
            if (text == null || asked == 30) return STATE;
            asked++;
            if (unknownSources(now.noses).isEmpty()) return NONE;
            int best = NONE;
            int fewest = Integer.MAX_VALUE;
            for (int cell = 0; cell < 8; cell++) {
                int worst = 0;
                for (int parish = -1; parish < 3; parish++) {
                    List<int[]> noses = new ArrayList<>(now.noses);
                    noses.add(new int[] {cell, parish});
                    worst = Math.max(worst, unknownSources(noses).size());
                }
                if (worst < fewest) {
                    fewest = worst;
                    best = cell;
                }
            }
            return best;
        }

        int liveDays(int hours, int seed, int what) {
            if (!in(hours, 1, 60) || seed < 0 || !in(what, 0, 1)) return OUTSIDE;
            if (text == null) return STATE;
            Now later = now.copy();
            long drawn = seed;
            int all = 0;
            for (int i = 0; i < hours; i++) {
                drawn = (drawn * 1103515245L + 12345L) & 0x7fffffffL;
                later.wind = (int) ((drawn >> 16) % 5);
                drawn = (drawn * 1103515245L + 12345L) & 0x7fffffffL;
                later.frost = (drawn >> 16) % 6 == 0;
                all += borders(text, later);
                later.endHour();
            }
            return what == 0 ? all : (int) drawn;
        }

        int keep() {
            if (text == null) return STATE;
            image = now.copy();
            return now.hour;
        }

        int goBack() {
            if (image == null) return STATE;
            now = image.copy();
            return now.hour;
        }

        int owned() {
            int many = 0;
            for (int cell = 0; text != null && cell < 8; cell++) {
                if (whose(text, now, cell) != NONE) many++;
            }
            return many;
        }

        int tell(int what) {
            switch (what) {
                case 0: return openCells();
                case 1: return text == null ? 0 : text.charAt(10) - '0';
                case 2: return now.smellers.size();
                case 3: return (int) now.burns.stream().filter(b -> b).count();
                case 4: return now.wind;
                case 5: return now.frost ? 1 : 0;
                case 6: return now.hour;
                case 7: return now.taxes[0];
                case 8: return now.taxes[1];
                case 9: return now.taxes[2];
                case 10: return owned();
                case 11: return now.noses.size();
                case 12: return page.length();
                case 13: return read;
                case 14: return walled;
                case 15: return asked;
                default: return OUTSIDE;
            }
        }

        long fold() {
            List<Integer> numbers = new ArrayList<>();
            for (int cell = 0; text != null && cell < 8; cell++) {
                for (int what = 0; what <= 4; what++) numbers.add(ofCell(cell, what));
                for (int parish = 0; parish <= 2; parish++) numbers.add(findHold(cell, parish));
            }
            for (int source = 0; source < now.smellers.size(); source++) {
                for (int what = 0; what <= 7; what++) numbers.add(ofSource(source, what));
            }
            numbers.add(text == null ? 0 : borders(text, now));
            page.chars().forEach(numbers::add);
            for (int what = 0; what <= 15; what++) numbers.add(tell(what));
            long h = 811;
            for (int number : numbers) h = 31 * h + number;
            return h;
        }

        int write(int code) {
            if (!in(code, 1, 126)) return OUTSIDE;
            if (page.length() == 14) return FULL;
            page += (char) code;
            return page.length();
        }

        int wipe() {
            int had = page.length();
            page = "";
            return had;
        }

        long answer(int call, int[] n) {
            switch (call) {
                case 0: return write(n[0]);
                case 1: return wipe();
                case 2: return faultOf();
                case 3: return readValley();
                case 4: return ofCell(n[0], n[1]);
                case 5: return text == null ? 0 : borders(text, now);
                case 6: return newSource(n[0], n[1], n[2], n[3]);
                case 7: return ofSource(n[0], n[1]);
                case 8: return cast(n[0], n[1]);
                case 9: return setBurning(n[0], n[1] % 2 == 0);
                case 10: return setWind(n[0]);
                case 11: return setFrost(n[0] % 2 == 0);
                case 12: return setPeople(n[0], n[1]);
                case 13: return tax();
                case 14: return endHour();
                case 15: return findWeakest(n[0], n[1], n[2]);
                case 16: return findWalls(n[0], n[1], n[2]);
                case 17: return findHold(n[0], n[1]);
                case 18: return addNose(n[0], n[1]);
                case 19: return forgetAll();
                case 20: return findUnknown(n[0]);
                case 21: return findSniff();
                case 22: return liveDays(n[0], n[1], n[2]);
                case 23: return keep();
                case 24: return goBack();
                case 25: return tell(n[0]);
                default: return fold();
            }
        }
    }

    private static final String[] NAMES = {"letter", "blank", "fault", "valley", "cell", "borders", "source", "about",
        "as", "burn", "wind", "frost", "people", "dusk", "hour", "weakest", "walls", "hold", "nose", "forget", "unknown",
        "sniff", "days", "image", "restore", "count", "digest"};

    private static long answer(SmellBorders x, int call, int[] n) {
        switch (call) {
            case 0: return x.letter(n[0]);
            case 1: return x.blank();
            case 2: return x.fault();
            case 3: return x.valley();
            case 4: return x.cell(n[0], n[1]);
            case 5: return x.borders();
            case 6: return x.source(n[0], n[1], n[2], n[3]);
            case 7: return x.about(n[0], n[1]);
            case 8: return x.as(n[0], n[1]);
            case 9: return x.burn(n[0], n[1] % 2 == 0);
            case 10: return x.wind(n[0]);
            case 11: return x.frost(n[0] % 2 == 0);
            case 12: return x.people(n[0], n[1]);
            case 13: return x.dusk();
            case 14: return x.hour();
            case 15: return x.weakest(n[0], n[1], n[2]);
            case 16: return x.walls(n[0], n[1], n[2]);
            case 17: return x.hold(n[0], n[1]);
            case 18: return x.nose(n[0], n[1]);
            case 19: return x.forget();
            case 20: return x.unknown(n[0]);
            case 21: return x.sniff();
            case 22: return x.days(n[0], n[1], n[2]);
            case 23: return x.image();
            case 24: return x.restore();
            case 25: return x.count(n[0]);
            default: return x.digest();
        }
    }

    /** How many of the numbers from 0 on are right ones, for each number of each call. */
    private static int[] spans(int call) {
        switch (call) {
            case 4: return new int[] {8, 5};
            case 6: return new int[] {5, 3, 8, 10};
            case 7: return new int[] {6, 18};
            case 8: return new int[] {6, 5};
            case 9: return new int[] {6, 2};
            case 10: return new int[] {5};
            case 11: return new int[] {3};
            case 12: return new int[] {8, 10};
            case 15:
            case 16: return new int[] {8, 3, 2};
            case 17: return new int[] {8, 3};
            case 18: return new int[] {8, 3};
            case 20: return new int[] {2};
            case 22: return new int[] {61, 2000000000, 2};
            case 25: return new int[] {16};
            default: return new int[0];
        }
    }

    private static int[] numbers(Random random, int call) {
        int[] n = new int[4];
        if (call == 0) {
            n[0] = random.nextInt(3) == 0 ? random.nextInt(140) - 6 : "..#w/;123".charAt(random.nextInt(9));
            return n;
        }
        int[] spans = spans(call);
        for (int i = 0; i < spans.length; i++) {
            n[i] = random.nextInt(spans[i]);
            if (random.nextInt(25) == 0) n[i] = random.nextInt(spans[i] + 4) - 2;
            if (random.nextInt(80) == 0) n[i] = random.nextBoolean() ? Integer.MIN_VALUE : Integer.MAX_VALUE;
        }
        if (call == 18 && random.nextInt(3) == 0) n[1] = NONE;
        return n;
    }

    private static String valleyText(Random random) {
        StringBuilder text = new StringBuilder();
        for (int i = 0; i < 8; i++) {
            if (i == 4) text.append('/');
            text.append("....#ww".charAt(random.nextInt(7) < 5 ? random.nextInt(4) : 4 + random.nextInt(3)));
        }
        return text.append(';').append((char) ('1' + random.nextInt(3))).toString();
    }

    private static int nextCall(Random random, int made) {
        if (made < 30 && random.nextInt(3) == 0) return 6;
        int call = random.nextInt(27);
        // Few letters and noses, so that valleys come from whole texts and some sources stay possible.
        if (call < 4 && random.nextInt(3) > 0) return 25;
        if (call == 18 && random.nextInt(3) > 0) return 19;
        return call;
    }

    private static boolean runsAlike(int run) {
        Random random = new Random(run);
        SmellBorders x = new SmellBorders();
        Model model = new Model();
        int made = 0;
        // A round makes up to 14 calls, and a digest comes last: what an object answers beyond its 512th call is free.
        while (made < CALLS - 14) {
            if (made == 20 && run % 4 > 0 || made > 20 && random.nextInt(150) == 0) {
                String text = valleyText(random);
                if (!alike(run, x, model, 1, new int[4])) return false;
                for (char sign : text.toCharArray()) {
                    if (!alike(run, x, model, 0, new int[] {sign, 0, 0, 0})) return false;
                }
                if (!alike(run, x, model, 3, new int[4])) return false;
                made += 13;
            }
            int call = nextCall(random, made > 20 ? made - 20 : 1000);
            if (!alike(run, x, model, call, numbers(random, call))) return false;
            made++;
        }
        return alike(run, x, model, 26, new int[4]);
    }

    private static boolean alike(int run, SmellBorders x, Model model, int call, int[] n) {
        long got = answer(x, call, n);
        long want = model.answer(call, n);
        if (got == want) return true;
        System.out.println("run " + run + ": " + NAMES[call] + java.util.Arrays.toString(n)
            + " answered " + got + ", due is " + want);
        return false;
    }

    public static void main(String[] args) {
        int wrong = 0;
        for (int run = 0; run < RUNS; run++) {
            if (!runsAlike(run)) wrong++;
        }
        System.out.println(RUNS + " runs, " + wrong + " wrong");
        if (wrong != 0) System.exit(1);
    }
}
