import java.util.Arrays;

/** Dams of earth: seepage, slides, grains, floods, gauges and works, as ../shared/DOC.md promises them. */
public final class EarthBanks {
    public static final int BAD = -1, STATE = -2, FULL = -3, NONE = -9;

    private static final int COLUMNS = 8;
    private static final int ROWS = 6;
    private static final int CELLS = COLUMNS * ROWS;
    private static final int ZONES = 6;
    private static final int AIR = -1;
    private static final int FIRST_TRAIT = 10;
    private static final int GREATEST_TRAIT = 99;

    private static final int HIGHEST_LAKE = 6;
    private static final int HEAD_OF_STEP = 1000;
    private static final int TRIAL_SWEEPS = 40;
    private static final int PUSH_OF_HOLD = 20;

    private static final int GREATEST_MARGIN = 9999;
    private static final int LIST_SIZE = 8;
    private static final int IMAGES = 2;

    private static final int FLOODS = 8;
    private static final int HOURS = 12;
    private static final int GREATEST_WATER = 9999;
    private static final int RULE_STEP = 100;
    private static final int LAST_RULE = 2000;

    private static final int[] STEP_X = {-1, 1, 0, 0};
    private static final int[] STEP_Y = {0, 0, -1, 1};

    private final DamText text = new DamText();
    private final Slice slice = new Slice();
    private final Slice trial = new Slice();
    private final Slice firstImage = new Slice();
    private final Slice secondImage = new Slice();
    private final int[] kept = new int[IMAGES];
    private final Works works = new Works();
    private final Slides slides = new Slides();
    private final Reservoir reservoir = new Reservoir();
    private final Watch watch = new Watch();
    private int filterFactor = 4;
    private long traced = 0;

    public EarthBanks() {
    }

    // ---- the dam

    public int type(long v, int n) {
        if (!within(n, 1, 8)) return BAD;
        return text.append(v, n) ? text.length : FULL;
    }

    public int clear() {
        return text.drop();
    }

    public int dam() {
        int fault = text.readInto(trial);
        if (fault != DamText.NO_FAULT) return -10 - fault;
        // THE LAKE is no part of THE DAM, so it outlasts a new text.
        trial.lakeLevel = slice.lakeLevel;
        slice.copy(trial);
        text.drop();
        return slice.earthCells();
    }

    public int cell(int x, int y, int what) {
        if (!isCell(x, y) || !within(what, 0, 3)) return BAD;
        int place = placeOf(x, y);
        boolean air = slice.isAir(place);
        if (what == 0) return air ? NONE : slice.zones[place];
        if (air) return STATE;
        if (what == 1) return slice.heads[place];
        return what == 2 ? slice.pushAt(place) : slice.gone[place];
    }

    public int zone(int z, int what, int v) {
        if (!isZone(z) || !within(what, 0, 2) || !isTrait(v)) return BAD;
        int[] traits = what == 0 ? slice.leads : what == 1 ? slice.holds : slice.grains;
        int before = traits[z];
        traits[z] = v;
        return before;
    }

    public int load(int kind, int x, int y) {
        if (!within(kind, 0, 4) || !isCell(x, y)) return BAD;
        int place = placeOf(x, y);
        if (slice.isAir(place)) return STATE;
        switch (kind) {
            case 0: return loadOfPart(place);
            case 1: return loadOfCell(place);
            case 2: return loadOfDrained(place);
            case 3: return loadOfCarried(place);
            default: return loadOfCrack(place);
        }
    }

    private int loadOfPart(int place) {
        traced += 1;
        return 10 + place / COLUMNS;
    }

    private int loadOfCell(int place) {
        traced += 10;
        return loadOfPart(place) + slice.pushAt(place) / 100;
    }

    private int loadOfDrained(int place) {
        traced += 100;
        int up = loadOfCell(place);
        return up - up / 3;
    }

    private int loadOfCarried(int place) {
        traced += 1000;
        return loadOfCell(place) / 2;
    }

    private int loadOfCrack(int place) {
        traced += 10000;
        return loadOfPart(place) - slice.holdAt(place) / 10;
    }

    // ---- water

    public int lake(int v) {
        if (!within(v, 0, HIGHEST_LAKE)) return BAD;
        int before = slice.lakeLevel;
        slice.lakeLevel = v;
        return before;
    }

    public int sweep(int n) {
        if (!within(n, 1, 100)) return BAD;
        slice.runSweeps(n);
        return slice.wetCells();
    }

    public int seep() {
        return slice.seepage();
    }

    public int dry() {
        return slice.dropHeads();
    }

    // ---- slides

    public int least(int k) {
        if (!within(k, -2, COLUMNS - 1)) return BAD;
        slides.survey(slice, works, 0);
        slides.walkAll(0);
        if (!slides.found) return NONE;
        if (k == -1) return slides.leastMargin;
        if (k == -2) return slides.leastStart;
        return k < slides.leastStart ? NONE : slides.leastHeights[k];
    }

    public int ways(int aim) {
        if (aim < 0) return BAD;
        slides.survey(slice, works, 0);
        slides.walkAll(aim);
        return slides.belowAim;
    }

    // ---- grains

    public int filter(int v) {
        if (!within(v, 2, 9)) return BAD;
        int before = filterFactor;
        filterFactor = v;
        return before;
    }

    public int day() {
        return slice.passDay(filterFactor);
    }

    public int breach() {
        trial.copy(slice);
        return trial.daysToBreach(filterFactor);
    }

    public int highest() {
        for (int level = HIGHEST_LAKE; level >= 0; level--) {
            trial.copy(slice);
            trial.lakeLevel = level;
            trial.soakAnew();
            if (trial.daysToBreach(filterFactor) == NONE) return level;
        }
        return NONE;
    }

    // ---- floods

    public int pool(int what, int v) {
        if (!within(what, 0, 5) || !isPoolWater(v)) return BAD;
        return reservoir.change(what, v);
    }

    public int flood(int i, int water) {
        if (!isFlood(i) || !within(water, 0, 999)) return BAD;
        return reservoir.addHour(i, water) ? reservoir.hours[i] : FULL;
    }

    public int ebb(int i) {
        if (!isFlood(i)) return BAD;
        return reservoir.emptyFlood(i);
    }

    public int route(int i, int rule, int what) {
        if (!isFlood(i) || !isPoolWater(rule) || !within(what, 0, 4)) return BAD;
        reservoir.run(i, rule);
        switch (what) {
            case 0: return reservoir.water;
            case 1: return reservoir.hoursOver;
            case 2: return reservoir.town;
            case 3: return reservoir.wasSafe() ? 1 : 0;
            default: return reservoir.letOut;
        }
    }

    public int best(int what) {
        if (!within(what, 0, 1)) return BAD;
        int bestRule = 0;
        int mostSafe = -1;
        for (int rule = 0; rule <= LAST_RULE; rule += RULE_STEP) {
            int safe = reservoir.safeFloods(rule);
            if (safe >= mostSafe) {
                mostSafe = safe;
                bestRule = rule;
            }
        }
        return what == 0 ? bestRule : mostSafe;
    }

    // ---- gauges, works

    public int gauge(int x, int y, int reads) {
        if (!isCell(x, y) || !within(reads, 0, 9999)) return BAD;
        return watch.addGauge(placeOf(x, y), reads);
    }

    public int cause(int zone, int lead) {
        if (!isZone(zone) || !isTrait(lead)) return BAD;
        return watch.addCause(zone, lead);
    }

    public int slack(int v) {
        if (!within(v, 0, 999)) return BAD;
        int before = watch.slackAllowed;
        watch.slackAllowed = v;
        return before;
    }

    public int fits() {
        return watch.tryCauses(slice, trial);
    }

    public int next(int what) {
        if (!within(what, 0, 1)) return BAD;
        if (Integer.bitCount(watch.tryCauses(slice, trial)) < 2) return NONE;
        int place = watch.placeMostApart(slice);
        if (place == NONE) return NONE;
        return what == 0 ? place : watch.apartAt(place);
    }

    public int work(int kind, int x, int y, int more, int price) {
        if (!within(kind, 0, 1) || !isCell(x, y) || !within(price, 0, 999)) return BAD;
        boolean asTold = kind == Works.BERM ? y == 0 && within(more, 1, 99) : more == 0;
        if (!asTold) return BAD;
        return works.add(kind, placeOf(x, y), more, price);
    }

    public int cheapest(int aim, int what) {
        if (!within(aim, 0, GREATEST_MARGIN) || !within(what, 0, 1)) return BAD;
        int bestSet = NONE;
        int bestPrice = NONE;
        int sets = 1 << works.size;
        for (int set = 0; set < sets; set++) {
            int price = works.priceOf(set);
            if (bestSet != NONE && price >= bestPrice) continue;
            slides.survey(slice, works, set);
            if (!slides.allReach(aim)) continue;
            bestSet = set;
            bestPrice = price;
        }
        return what == 0 ? bestPrice : bestSet;
    }

    // ---- images

    public int keep(int image) {
        if (!within(image, 0, IMAGES - 1)) return BAD;
        imageOf(image).copy(slice);
        kept[image] = 1;
        return slice.earthCells();
    }

    public int back(int image) {
        if (!within(image, 0, IMAGES - 1)) return BAD;
        if (kept[image] == 0) return STATE;
        slice.copy(imageOf(image));
        return slice.earthCells();
    }

    public int count(int what) {
        switch (what) {
            case 0: return slice.earthCells();
            case 1: return slice.goneCells();
            case 2: return slice.wetCells();
            case 3: return watch.gauges;
            case 4: return watch.causes;
            case 5: return works.size;
            case 6: return slice.lakeLevel;
            case 7: return text.length;
            default: return BAD;
        }
    }

    public long trace() {
        return traced;
    }

    private Slice imageOf(int image) {
        return image == 0 ? firstImage : secondImage;
    }

    private static boolean within(int v, int low, int high) {
        return v >= low && v <= high;
    }

    private static boolean isCell(int x, int y) {
        return within(x, 0, COLUMNS - 1) && within(y, 0, ROWS - 1);
    }

    private static boolean isZone(int z) {
        return within(z, 0, ZONES - 1);
    }

    private static boolean isTrait(int v) {
        return within(v, 1, GREATEST_TRAIT);
    }

    private static boolean isFlood(int i) {
        return within(i, 0, FLOODS - 1);
    }

    private static boolean isPoolWater(int v) {
        return within(v, 0, GREATEST_WATER);
    }

    /** Rows from the ground up, so that places in order are cells by y, then by x. */
    private static int placeOf(int x, int y) {
        return COLUMNS * y + x;
    }

    /** What an image keeps: CELLS, ZONES, HEADS, THE LAKE, what is GONE; and what becomes of it. */
    private static final class Slice {
        final int[] zones = new int[CELLS];
        final int[] heads = new int[CELLS];
        final int[] gone = new int[CELLS];
        final int[] leads = new int[ZONES];
        final int[] holds = new int[ZONES];
        final int[] grains = new int[ZONES];
        int lakeLevel = 0;
        private final int[] leaving = new int[CELLS];
        // By places: the LEAD of EARTH, and 0 where there is none, so that no water passes there.
        private final int[] passing = new int[CELLS];

        Slice() {
            makeBlank();
        }

        void makeBlank() {
            Arrays.fill(zones, AIR);
            Arrays.fill(heads, 0);
            Arrays.fill(gone, 0);
            Arrays.fill(leads, FIRST_TRAIT);
            Arrays.fill(holds, FIRST_TRAIT);
            Arrays.fill(grains, FIRST_TRAIT);
        }

        void copy(Slice from) {
            System.arraycopy(from.zones, 0, zones, 0, CELLS);
            System.arraycopy(from.heads, 0, heads, 0, CELLS);
            System.arraycopy(from.gone, 0, gone, 0, CELLS);
            System.arraycopy(from.leads, 0, leads, 0, ZONES);
            System.arraycopy(from.holds, 0, holds, 0, ZONES);
            System.arraycopy(from.grains, 0, grains, 0, ZONES);
            lakeLevel = from.lakeLevel;
        }

        boolean isAir(int place) {
            int zone = zones[place];
            return zone < 0 || zone >= ZONES;
        }

        boolean isEarth(int place) {
            return !isAir(place) && gone[place] == 0;
        }

        int holdAt(int place) {
            return isAir(place) ? 0 : holds[zones[place]];
        }

        private int grainAt(int place) {
            return isAir(place) ? 0 : grains[zones[place]];
        }

        int pushAt(int place) {
            return Math.max(0, heads[place] - HEAD_OF_STEP * (place / COLUMNS));
        }

        boolean isWet(int place) {
            return isEarth(place) && pushAt(place) > 0;
        }

        int earthCells() {
            int cells = 0;
            for (int place = 0; place < CELLS; place++) {
                if (isEarth(place)) cells++;
            }
            return cells;
        }

        int goneCells() {
            int cells = 0;
            for (int place = 0; place < CELLS; place++) {
                cells += gone[place];
            }
            return cells;
        }

        int wetCells() {
            int cells = 0;
            for (int place = 0; place < CELLS; place++) {
                if (isWet(place)) cells++;
            }
            return cells;
        }

        int dropHeads() {
            int above = 0;
            for (int place = 0; place < CELLS; place++) {
                if (heads[place] > 0) above++;
                heads[place] = 0;
            }
            return above;
        }

        /** HEADS as HIGHEST and FITS ask for them. */
        void soakAnew() {
            dropHeads();
            runSweeps(TRIAL_SWEEPS);
        }

        void runSweeps(int n) {
            notePassing();
            for (int i = 0; i < n; i++) {
                fixEnds();
                levelOthers();
            }
        }

        private void notePassing() {
            for (int place = 0; place < CELLS; place++) {
                passing[place] = isEarth(place) ? leads[zones[place]] : 0;
            }
        }

        private void fixEnds() {
            for (int place = 0; place < CELLS; place++) {
                if (passing[place] == 0) continue;
                if (isAtLake(place)) heads[place] = HEAD_OF_STEP * lakeLevel;
                if (isAtFoot(place)) heads[place] = 0;
            }
        }

        private void levelOthers() {
            for (int place = 0; place < CELLS; place++) {
                if (passing[place] == 0 || isAtLake(place) || isAtFoot(place)) continue;
                int leadsAround = leadsAround(place);
                if (leadsAround > 0) heads[place] = flowInto(place) / leadsAround;
            }
        }

        private boolean isAtLake(int place) {
            return place % COLUMNS == 0 && place / COLUMNS < lakeLevel;
        }

        private boolean isAtFoot(int place) {
            return place == COLUMNS - 1;
        }

        private int leadsAround(int place) {
            int sum = 0;
            for (int side = 0; side < STEP_X.length; side++) {
                int other = neighbour(place, side);
                if (other != NONE) sum += Math.min(passing[place], passing[other]);
            }
            return sum;
        }

        private int flowInto(int place) {
            int sum = 0;
            for (int side = 0; side < STEP_X.length; side++) {
                int other = neighbour(place, side);
                if (other != NONE) sum += Math.min(passing[place], passing[other]) * heads[other];
            }
            return sum;
        }

        private static int neighbour(int place, int side) {
            int x = place % COLUMNS + STEP_X[side];
            int y = place / COLUMNS + STEP_Y[side];
            if (x < 0 || x >= COLUMNS || y < 0 || y >= ROWS) return NONE;
            return COLUMNS * y + x;
        }

        int seepage() {
            notePassing();
            return flowInto(COLUMNS - 1) / 1000;
        }

        /** All that is LOOSE goes at once: what goes is told ahead of any going. */
        int passDay(int filterFactor) {
            int going = 0;
            for (int place = 0; place < CELLS; place++) {
                leaving[place] = isLoose(place, filterFactor) ? 1 : 0;
            }
            for (int place = 0; place < CELLS; place++) {
                if (leaving[place] == 0) continue;
                gone[place] = 1;
                going++;
            }
            return going;
        }

        private boolean isLoose(int place, int filterFactor) {
            return isEarth(place)
                && pushAt(place) >= PUSH_OF_HOLD * holdAt(place)
                && isOpen(place, filterFactor);
        }

        private boolean isOpen(int place, int filterFactor) {
            if (place % COLUMNS == COLUMNS - 1 || isAir(place + 1)) return true;
            int heldGrain = filterFactor * grainAt(place);
            for (int side = 0; side < STEP_X.length; side++) {
                int other = neighbour(place, side);
                if (other == NONE) continue;
                if (gone[other] == 1) return true;
                if (isEarth(other) && grainAt(other) > heldGrain) return true;
            }
            return false;
        }

        /** Lets days go by in this slice itself: a call that tells as if does so on a copy. */
        int daysToBreach(int filterFactor) {
            // Each day but the last takes a cell, so there can't be more days than cells.
            for (int day = 1; day <= CELLS; day++) {
                int front = earthAtFront();
                if (passDay(filterFactor) == 0) return NONE;
                if (earthAtFront() < front) return day;
            }
            return NONE;
        }

        private int earthAtFront() {
            int cells = 0;
            for (int place = 0; place < CELLS; place += COLUMNS) {
                if (isEarth(place)) cells++;
            }
            return cells;
        }
    }

    /** THE TEXT, and how it is read as THE DAM. */
    private static final class DamText {
        static final int NO_FAULT = -1;
        private static final int SIZE = 400;
        private static final int ITEMS = 20;
        private static final int TOO_GREAT = 100;

        private static final int END = 0, WORD = 1, NUMBER = 2, STOP = 3, WRONG = 4;

        private final int[] bytes = new int[SIZE];
        int length = 0;

        // The TOKEN that was taken last: its sort, its first byte, the byte behind it, a NUMBER's value.
        private int sort = END;
        private int first = 0;
        private int behind = 0;
        private int value = 0;

        boolean append(long v, int n) {
            if (n > SIZE - length) return false;
            for (int i = n - 1; i >= 0; i--) {
                bytes[length] = (int) (v >>> (8 * i)) & 255;
                length++;
            }
            return true;
        }

        int drop() {
            int before = length;
            length = 0;
            return before;
        }

        /** Makes a slice of THE TEXT: NO_FAULT, or the place of the FAULT, and then the slice is of no use. */
        int readInto(Slice slice) {
            slice.makeBlank();
            behind = 0;
            for (int items = 0; items < ITEMS; items++) {
                takeToken();
                if (sort == END) return NO_FAULT;
                boolean stands = isWord("zone") ? readZone(slice) : isWord("row") && readRow(slice);
                if (!stands) return first;
            }
            takeToken();
            return sort == END ? NO_FAULT : first;
        }

        private boolean readZone(Slice slice) {
            takeToken();
            if (sort != WORD || behind - first != 1) return false;
            int zone = zoneOf(bytes[first]);
            if (!isZone(zone)) return false;
            if (!takeNumber(1, GREATEST_TRAIT)) return false;
            slice.leads[zone] = value;
            if (!takeNumber(1, GREATEST_TRAIT)) return false;
            slice.holds[zone] = value;
            if (!takeNumber(1, GREATEST_TRAIT)) return false;
            slice.grains[zone] = value;
            return takeStop();
        }

        private boolean readRow(Slice slice) {
            if (!takeNumber(0, ROWS - 1)) return false;
            int row = value;
            takeToken();
            if (sort != WORD || behind - first != COLUMNS) return false;
            for (int x = 0; x < COLUMNS; x++) {
                int sign = bytes[first + x];
                if (sign != '.' && !isZone(zoneOf(sign))) return false;
                slice.zones[placeOf(x, row)] = sign == '.' ? AIR : zoneOf(sign);
            }
            return takeStop();
        }

        private static int zoneOf(int sign) {
            return sign - 'a';
        }

        private boolean takeNumber(int low, int high) {
            takeToken();
            return sort == NUMBER && within(value, low, high);
        }

        private boolean takeStop() {
            takeToken();
            return sort == STOP;
        }

        private boolean isWord(String word) {
            if (sort != WORD || behind - first != word.length()) return false;
            for (int i = 0; i < word.length(); i++) {
                if (bytes[first + i] != word.charAt(i)) return false;
            }
            return true;
        }

        private void takeToken() {
            first = behind;
            while (first < length && bytes[first] == ' ') first++;
            behind = first;
            if (first >= length) {
                sort = END;
                return;
            }
            int sign = bytes[first];
            if (isWordSign(sign)) {
                takeWord();
            } else if (isDigit(sign)) {
                takeDigits();
            } else {
                behind = first + 1;
                sort = sign == ';' ? STOP : WRONG;
            }
        }

        private void takeWord() {
            while (behind < length && isWordSign(bytes[behind])) behind++;
            sort = WORD;
        }

        private void takeDigits() {
            value = 0;
            while (behind < length && isDigit(bytes[behind])) {
                value = Math.min(TOO_GREAT, 10 * value + bytes[behind] - '0');
                behind++;
            }
            boolean zeroAhead = bytes[first] == '0' && behind - first > 1;
            sort = zeroAhead || value == TOO_GREAT ? WRONG : NUMBER;
        }

        private static boolean isWordSign(int sign) {
            return sign >= 'a' && sign <= 'z' || sign == '.';
        }

        private static boolean isDigit(int sign) {
            return sign >= '0' && sign <= '9';
        }
    }

    /** WORKS that may be built; a set of them is told by bits. */
    private static final class Works {
        static final int BERM = 0, DRAIN = 1;

        private final int[] kinds = new int[LIST_SIZE];
        private final int[] places = new int[LIST_SIZE];
        private final int[] mores = new int[LIST_SIZE];
        private final int[] prices = new int[LIST_SIZE];
        int size = 0;

        int add(int kind, int place, int more, int price) {
            if (size >= LIST_SIZE) return FULL;
            kinds[size] = kind;
            places[size] = place;
            mores[size] = more;
            prices[size] = price;
            size++;
            return size - 1;
        }

        private static boolean has(int set, int number) {
            return (set >> number & 1) == 1;
        }

        int priceOf(int set) {
            int sum = 0;
            for (int i = 0; i < size; i++) {
                if (has(set, i)) sum += prices[i];
            }
            return sum;
        }

        /** What the BERMS of a set bring to the HOLD of a column's cells. */
        int moreHold(int set, int column) {
            int sum = 0;
            for (int i = 0; i < size; i++) {
                if (has(set, i) && kinds[i] == BERM && places[i] == column) sum += mores[i];
            }
            return sum;
        }

        boolean isDrained(int set, int place) {
            for (int i = 0; i < size; i++) {
                if (has(set, i) && kinds[i] == DRAIN && places[i] == place) return true;
            }
            return false;
        }
    }

    /** WAYS through a slice with a set of WORKS. */
    private static final class Slides {
        private static final int NO_EARTH = -1;
        // For a balance of no WAY at all: far above what a WAY's 100 times REST can come to.
        private static final int NO_WAY = 1000000000;

        // By places: what a cell brings to REST, and what stands above it for DRIVE.
        private final int[] rests = new int[CELLS];
        private final int[] burdens = new int[CELLS];

        private final int[] heights = new int[COLUMNS];
        private int start = 0;
        private int aim = 0;

        // For allReach: by heights, the least balance of the ways that begin so.
        private final int[] balances = new int[ROWS];

        boolean found = false;
        int belowAim = 0;
        int leastMargin = 0;
        int leastStart = 0;
        final int[] leastHeights = new int[COLUMNS];

        void survey(Slice slice, Works works, int set) {
            for (int x = 0; x < COLUMNS; x++) {
                int moreHold = works.moreHold(set, x);
                int burden = 0;
                for (int y = ROWS - 1; y >= 0; y--) {
                    int place = placeOf(x, y);
                    boolean wet = slice.isWet(place) && !works.isDrained(set, place);
                    int hold = slice.holdAt(place) + moreHold;
                    boolean earth = slice.isEarth(place);
                    burdens[place] = burden;
                    rests[place] = !earth ? NO_EARTH : wet ? hold / 2 : hold;
                    if (earth) burden += wet ? 2 : 1;
                }
            }
        }

        /** Goes through all WAYS, the first of several first: finds LEAST, and how many are below an aim. */
        void walkAll(int marginAim) {
            aim = marginAim;
            belowAim = 0;
            found = false;
            for (int x = 0; x < COLUMNS; x++) {
                start = x;
                walkFrom(x, ROWS - 1, 0, 0);
            }
        }

        /** A column's DRIVE hangs on the height behind it, so it is added when that height is chosen. */
        private void walkFrom(int x, int highest, int drive, int rest) {
            for (int y = 0; y <= highest; y++) {
                int place = placeOf(x, y);
                if (rests[place] == NO_EARTH) continue;
                heights[x] = y;
                int driveAhead = x == start ? drive : drive + driveOf(x - 1, highest, y);
                int restHere = rest + rests[place];
                if (x == COLUMNS - 1) {
                    meetWay(driveAhead + driveOf(x, y, 0), restHere);
                } else {
                    walkFrom(x + 1, y, driveAhead, restHere);
                }
            }
        }

        private int driveOf(int x, int height, int heightBehind) {
            return burdens[placeOf(x, height)] * (1 + height - heightBehind);
        }

        private void meetWay(int drive, int rest) {
            int margin = GREATEST_MARGIN;
            if (drive > 0) margin = Math.min(GREATEST_MARGIN, 100 * rest / drive);
            if (margin < aim) belowAim++;
            if (found && margin >= leastMargin) return;
            found = true;
            leastMargin = margin;
            leastStart = start;
            System.arraycopy(heights, 0, leastHeights, 0, COLUMNS);
        }

        /**
         * Whether no WAY has a MARGIN below an aim of 9999 at most. A MARGIN is below it just if 100 times REST
         * less the aim times DRIVE, the balance, is below 0; and balances add up over columns, so the least of
         * them is found without going through all WAYS.
         */
        boolean allReach(int marginAim) {
            for (int x = COLUMNS - 1; x >= 0; x--) {
                // From above down: a height needs the balances behind it up to its own height.
                for (int y = ROWS - 1; y >= 0; y--) {
                    int place = placeOf(x, y);
                    int behind = x == COLUMNS - 1 ? -marginAim * driveOf(x, y, 0) : leastBehind(x, y, marginAim);
                    boolean none = rests[place] == NO_EARTH || behind == NO_WAY;
                    balances[y] = none ? NO_WAY : behind + 100 * rests[place];
                    if (balances[y] < 0) return false;
                }
            }
            return true;
        }

        private int leastBehind(int x, int height, int marginAim) {
            int least = NO_WAY;
            for (int y = 0; y <= height; y++) {
                if (balances[y] == NO_WAY) continue;
                least = Math.min(least, balances[y] - marginAim * driveOf(x, height, y));
            }
            return least;
        }
    }

    /** THE POOL, the FLOODS, and what the last run of one left. */
    private static final class Reservoir {
        private static final int GATE = 0, CREST = 1, SPILL = 2, TOP = 3, LIMIT = 4, FIRST_WATER = 5;

        private final int[] settings = {50, 1000, 100, 2000, 120, 0};
        private final int[] waters = new int[FLOODS * HOURS];
        final int[] hours = new int[FLOODS];

        int water = 0;
        int hoursOver = 0;
        int town = 0;
        int letOut = 0;

        int change(int what, int v) {
            int before = settings[what];
            settings[what] = v;
            return before;
        }

        boolean addHour(int flood, int comes) {
            if (hours[flood] >= HOURS) return false;
            waters[flood * HOURS + hours[flood]] = comes;
            hours[flood]++;
            return true;
        }

        int emptyFlood(int flood) {
            int before = hours[flood];
            hours[flood] = 0;
            return before;
        }

        void run(int flood, int rule) {
            water = settings[FIRST_WATER];
            hoursOver = 0;
            town = 0;
            letOut = 0;
            for (int hour = 0; hour < hours[flood]; hour++) {
                passHour(waters[flood * HOURS + hour], rule);
            }
        }

        private void passHour(int comes, int rule) {
            water += comes;
            int byGate = water >= rule ? Math.min(settings[GATE], water) : 0;
            water -= byGate;
            int above = Math.max(0, water - settings[CREST]);
            int bySpillway = Math.min(settings[SPILL], (above + 1) / 2);
            water -= bySpillway;
            if (water > settings[TOP]) hoursOver++;
            town = Math.max(town, byGate + bySpillway);
            letOut += byGate + bySpillway;
        }

        boolean wasSafe() {
            return hoursOver == 0 && town <= settings[LIMIT];
        }

        int safeFloods(int rule) {
            int safe = 0;
            for (int flood = 0; flood < FLOODS; flood++) {
                run(flood, rule);
                if (wasSafe()) safe++;
            }
            return safe;
        }
    }

    /** GAUGES, CAUSES, and the HEADS by those that FIT. */
    private static final class Watch {
        private static final int ABOVE_ALL_HEADS = HEAD_OF_STEP * (HIGHEST_LAKE + 1);

        private final int[] gaugePlaces = new int[LIST_SIZE];
        private final int[] gaugeReads = new int[LIST_SIZE];
        private final int[] causeZones = new int[LIST_SIZE];
        private final int[] causeLeads = new int[LIST_SIZE];
        private final int[] leastHeads = new int[CELLS];
        private final int[] greatestHeads = new int[CELLS];
        int gauges = 0;
        int causes = 0;
        int slackAllowed = 100;

        int addGauge(int place, int reads) {
            if (gauges >= LIST_SIZE) return FULL;
            gaugePlaces[gauges] = place;
            gaugeReads[gauges] = reads;
            gauges++;
            return gauges - 1;
        }

        int addCause(int zone, int lead) {
            if (causes >= LIST_SIZE) return FULL;
            causeZones[causes] = zone;
            causeLeads[causes] = lead;
            causes++;
            return causes - 1;
        }

        /** CAUSES that FIT, as bits; their HEADS are noted for NEXT GAUGE. */
        int tryCauses(Slice slice, Slice trial) {
            int fitting = 0;
            Arrays.fill(leastHeads, ABOVE_ALL_HEADS);
            Arrays.fill(greatestHeads, 0);
            for (int i = 0; i < causes; i++) {
                trial.copy(slice);
                trial.leads[causeZones[i]] = causeLeads[i];
                trial.soakAnew();
                if (!allGaugesAgree(trial)) continue;
                fitting |= 1 << i;
                noteHeads(trial);
            }
            return fitting;
        }

        private boolean allGaugesAgree(Slice trial) {
            for (int i = 0; i < gauges; i++) {
                int place = gaugePlaces[i];
                if (!trial.isEarth(place)) continue;
                if (Math.abs(trial.heads[place] - gaugeReads[i]) > slackAllowed) return false;
            }
            return true;
        }

        private void noteHeads(Slice trial) {
            for (int place = 0; place < CELLS; place++) {
                leastHeads[place] = Math.min(leastHeads[place], trial.heads[place]);
                greatestHeads[place] = Math.max(greatestHeads[place], trial.heads[place]);
            }
        }

        int apartAt(int place) {
            return greatestHeads[place] - leastHeads[place];
        }

        int placeMostApart(Slice slice) {
            int most = NONE;
            for (int place = 0; place < CELLS; place++) {
                if (!slice.isEarth(place)) continue;
                if (most == NONE || apartAt(place) > apartAt(most)) most = place;
            }
            return most;
        }
    }
}
