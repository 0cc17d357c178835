/**
 * A heap of armfuls of leaves in a garden, the smoke that it makes, and what is asked about both.
 *
 * <p>Every row is made once, in a constructor, and used again: no call makes an object, because all
 * calls of a run share one room.
 */
public final class SmokyHeap {
    private static final int LOW = -1000000;
    private static final int BEYOND = 1;
    private static final int NONE = 2;
    private static final int STATE = 3;
    private static final int FULL = 4;
    private static final int OTHER_KIND = 5;
    private static final int PARTED = 6;
    private static final int ERRORS = 6;

    private static final int COLUMNS = 6;
    private static final int ROWS = 5;
    private static final int PLACES = 30;
    private static final int NOWHERE = -1;

    private static final int STUFF_MOST = 999;
    private static final int WET_MOST = 999;
    private static final int LOOSE_MOST = 9;
    private static final int LOOSE_FIRST = 3;
    private static final int WARM_MOST = 9999;
    private static final int WARM_BY_HAND = 100;
    private static final int WARM_TO_GLOW = 5;
    private static final int WET_TO_GLOW = 700;
    private static final int WATER_MOST = 999;

    private static final int DRY = 1;
    private static final int PAPER = 3;
    private static final int DAMP = 4;
    private static final int GREEN = 5;
    private static final int LIVED = 6;
    private static final int KINDS = 7;
    private static final int[] KIND_ABOVE = {-1, 0, 0, 1, 2, 0, 5};
    private static final int[] HEATS = {4, 5, 8, 3, 5, 3, 3};
    private static final int[] CATCHES = {60, 30, 120, 6, 120, 90, 10000};

    private static final int CLOCK = 0;
    private static final int WIND = 1;
    private static final int WAY = 2;
    private static final int DRYNESS = 3;
    private static final int HOME = 4;
    private static final int SETTINGS = 5;
    private static final int[] SETTINGS_FIRST = {900, 5, 0, 60, 4};
    private static final int[] SETTINGS_MOST = {1439, 99, 3, 999, 8};

    private static final int EAST = 0;
    private static final int NORTH = 1;
    private static final int WEST = 2;
    private static final int SOUTH = 3;
    private static final int GARDENS = 9;
    private static final int GARDENS_A_SIDE = 3;
    private static final int ALL_GARDENS = 511;

    private static final int HOURS = 24;
    private static final int MINUTES_AN_HOUR = 60;
    private static final int MINUTES_A_DAY = 1440;
    private static final int MINUTES_MOST = 99999;
    private static final int MINUTES_A_CALL = 200;
    private static final int AHEAD_MOST = 60;
    private static final int SUM_MOST = 1999999999;
    private static final int WATER_STEP = 50;
    private static final int WATER_TRIED_MOST = 950;

    private static final int BURNING = 0;
    private static final int BYLAW = 1;
    private static final int LYING = 2;
    private static final int USES = 3;
    private static final int TAPE_MOST = 60;
    private static final int OPEN_MOST = 5;
    private static final int DIGITS_MOST = 4;
    private static final int BYTES_A_WORD = 8;
    // A part of a TEXT is a NUMBER (below NAME), a NAME (NAME and its place), or a sign (SIGN and its byte).
    private static final int NAME = 10000;
    private static final int SIGN = 20000;

    private static final int REPORTS_MOST = 12;
    private static final int WAITING_MOST = 24;
    private static final int SHEETS = 4;
    private static final int NUMBERS_MOST = 24;
    private static final int NUMBERS_AN_ARMFUL = 4;

    private static final int DRIES = 0;
    private static final int BURNS = 1;
    private static final int SMOKES = 2;
    private static final int MINDS = 3;
    private static final int VOICES = 4;
    private static final int TRACE_MOST = 30;
    private static final int DEPTH_MOST = 40;
    // For each KIND its BODIES of the four VOICES; 0: it has none of its own.
    private static final int[] BODIES = {
        10, 11, 12, 13,
        20, 0, 0, 21,
        0, 0, 30, 0,
        40, 41, 0, 0,
        0, 0, 50, 51,
        0, 60, 0, 0,
        70, 0, 71, 0
    };

    private final State now;
    private final State kept;
    private final Heap ahead;
    private final Reader reader;
    private final Voices voices;
    private final Sheet[] sheets;
    private final int[] errors;
    private final int[] smokeAhead;
    private int imagesMade;

    public SmokyHeap() {
        now = new State();
        kept = new State();
        ahead = new Heap();
        reader = new Reader();
        voices = new Voices();
        sheets = new Sheet[SHEETS];
        for (int k = 0; k < SHEETS; k++) {
            sheets[k] = new Sheet();
        }
        errors = new int[ERRORS + 1];
        smokeAhead = new int[AHEAD_MOST];
        imagesMade = 0;
    }

    // ---- armfuls

    public int lay(int kind, int column, int stuff, int wet) {
        int place = now.heap.layOnTop(kind, column, stuff, wet);
        return place < 0 ? failed(-place) : place;
    }

    public int take(int place) {
        if (!isPlace(place)) {
            return failed(BEYOND);
        }
        if (!now.heap.has(place)) {
            return failed(NONE);
        }
        int stuff = now.heap.stuffs[place];
        now.heap.remove(place);
        return stuff;
    }

    public int armful(int place, int what) {
        if (!isPlace(place) || !within(what, 0, 8)) {
            return failed(BEYOND);
        }
        if (!now.heap.has(place)) {
            return failed(NONE);
        }
        return now.heap.armfulTells(place, what);
    }

    public int as(int place, int kind) {
        if (!isPlace(place) || !isKind(kind)) {
            return failed(BEYOND);
        }
        if (!now.heap.has(place)) {
            return failed(NONE);
        }
        if (!isOfKind(now.heap.kinds[place], kind)) {
            return failed(OTHER_KIND);
        }
        return now.heap.stuffs[place];
    }

    public int become(int place, int kind) {
        if (!isPlace(place) || !isKind(kind)) {
            return failed(BEYOND);
        }
        if (!now.heap.has(place)) {
            return failed(NONE);
        }
        int was = now.heap.kinds[place];
        now.heap.kinds[place] = kind;
        return was;
    }

    public int light(int place) {
        if (!isPlace(place)) {
            return failed(BEYOND);
        }
        if (!now.heap.has(place)) {
            return failed(NONE);
        }
        if (!now.heap.canBeLit(place) || !bylawLets()) {
            return failed(STATE);
        }
        now.heap.lightByHand(place);
        return 1;
    }

    public int fork(int place, int v) {
        if (!isPlace(place) || !within(v, 0, LOOSE_MOST)) {
            return failed(BEYOND);
        }
        if (!now.heap.has(place)) {
            return failed(NONE);
        }
        int was = now.heap.looses[place];
        now.heap.looses[place] = v;
        return was;
    }

    public int pour(int place, int water) {
        if (!isPlace(place) || !within(water, 0, WATER_MOST)) {
            return failed(BEYOND);
        }
        if (!now.heap.has(place)) {
            return failed(NONE);
        }
        now.heap.pourOn(place, water);
        return now.heap.wets[place];
    }

    public int set(int what, int v) {
        if (!within(what, 0, SETTINGS - 1) || !within(v, 0, SETTINGS_MOST[what])) {
            return failed(BEYOND);
        }
        int was = now.heap.settings[what];
        now.heap.settings[what] = v;
        return was;
    }

    // ---- texts

    public int feed(long word, int n) {
        if (!within(n, 1, BYTES_A_WORD)) {
            return failed(BEYOND);
        }
        if (now.tape.size + n > TAPE_MOST) {
            return failed(FULL);
        }
        for (int k = 0; k < n; k++) {
            now.tape.add((int) (word >>> (8 * k)) & 255);
        }
        return now.tape.size;
    }

    public int text(int use) {
        if (!isUse(use)) {
            return failed(BEYOND);
        }
        int fault = reader.faultOf(now.tape, use);
        now.tape.size = 0;
        if (fault != NOWHERE) {
            return -10 - fault;
        }
        now.laws.codes[use].copyFrom(reader.code);
        return 1;
    }

    public int untell(int use) {
        if (!isUse(use)) {
            return failed(BEYOND);
        }
        int was = now.laws.has(use) ? 1 : 0;
        now.laws.codes[use].size = 0;
        return was;
    }

    // ---- minutes, gardens

    public int minutes(int n) {
        if (!within(n, 1, MINUTES_A_CALL)) {
            return failed(BEYOND);
        }
        if (now.heap.minutes + n > MINUTES_MOST) {
            return failed(STATE);
        }
        now.heap.pass(n, now.laws);
        return now.heap.minutes;
    }

    public int gusts(int n) {
        if (!within(n, 1, MINUTES_A_CALL)) {
            return failed(BEYOND);
        }
        if (now.heap.minutes + n > MINUTES_MOST) {
            return failed(STATE);
        }
        int wind = now.heap.settings[WIND];
        for (int k = 0; k < n; k++) {
            now.heap.settings[WIND] = now.draw() % 100;
            now.heap.pass(1, now.laws);
        }
        now.heap.settings[WIND] = wind;
        return now.heap.minutes;
    }

    public int seed(int v) {
        int was = now.drawn;
        now.drawn = v;
        return was;
    }

    public int washing(int garden, int from, int to) {
        if (!isGarden(garden) || !within(from, 0, HOURS - 1) || !within(to, 0, HOURS - 1)) {
            return failed(BEYOND);
        }
        int bits = 0;
        for (int hour = from; hour <= to; hour++) {
            bits |= 1 << hour;
        }
        now.heap.washings[garden] = bits;
        return Integer.bitCount(bits);
    }

    public int garden(int garden, int what) {
        if (!isGarden(garden) || !within(what, 0, 2)) {
            return failed(BEYOND);
        }
        return now.heap.gardenTells(garden, what);
    }

    public int heap(int what) {
        if (!within(what, 0, 7)) {
            return failed(BEYOND);
        }
        return now.heap.heapTells(what);
    }

    public int may() {
        return bylawLets() ? 1 : 0;
    }

    // ---- ahead

    public int then(int n, int what) {
        if (!isAhead(n) || !within(what, 0, 7)) {
            return failed(BEYOND);
        }
        ahead.copyFrom(now.heap);
        ahead.pass(n, now.laws);
        return ahead.heapTells(what);
    }

    public int gardenThen(int n, int garden, int what) {
        if (!isAhead(n) || !isGarden(garden) || !within(what, 0, 2)) {
            return failed(BEYOND);
        }
        ahead.copyFrom(now.heap);
        ahead.pass(n, now.laws);
        return ahead.gardenTells(garden, what);
    }

    public int hour(int place, int n) {
        if (!isPlace(place) || !isAhead(n)) {
            return failed(BEYOND);
        }
        if (!now.heap.has(place)) {
            return failed(NONE);
        }
        ahead.copyFrom(now.heap);
        ahead.lightByHand(place);
        // What burns does not hang on CLOCK, so one burning serves all HOURS.
        for (int k = 0; k < n; k++) {
            smokeAhead[k] = ahead.burn(now.laws);
        }
        int best = 0;
        int least = botheredFrom(0, n);
        for (int hour = 1; hour < HOURS; hour++) {
            int bothered = botheredFrom(hour, n);
            if (bothered < least) {
                best = hour;
                least = bothered;
            }
        }
        return best;
    }

    public int spot(int n) {
        if (!isAhead(n)) {
            return failed(BEYOND);
        }
        int best = NOWHERE;
        int most = -1;
        for (int place = 0; place < PLACES; place++) {
            if (now.heap.has(place)) {
                ahead.copyFrom(now.heap);
                ahead.lightByHand(place);
                ahead.pass(n, now.laws);
                if (ahead.burnt > most) {
                    best = place;
                    most = ahead.burnt;
                }
            }
        }
        return best == NOWHERE ? failed(NONE) : best;
    }

    public int out(int n) {
        if (!isAhead(n)) {
            return failed(BEYOND);
        }
        for (int water = 0; water <= WATER_TRIED_MOST; water += WATER_STEP) {
            ahead.copyFrom(now.heap);
            ahead.pourOnLit(water);
            ahead.pass(n, now.laws);
            if (ahead.howManyLit() == 0) {
                return water;
            }
        }
        return failed(NONE);
    }

    public int catches(int place, int n) {
        if (!isPlace(place) || !isAhead(n)) {
            return failed(BEYOND);
        }
        ahead.copyFrom(now.heap);
        for (int minute = 0; minute <= n; minute++) {
            ahead.pass(minute == 0 ? 0 : 1, now.laws);
            if (ahead.has(place) && ahead.lits[place]) {
                return minute;
            }
        }
        return failed(NONE);
    }

    public int reach(int place) {
        if (!isPlace(place)) {
            return failed(BEYOND);
        }
        if (!now.heap.has(place)) {
            return failed(NONE);
        }
        return Integer.bitCount(now.heap.hangingWith(place));
    }

    // ---- reports

    public int report(int garden, int way) {
        if (!isGarden(garden) || !within(way, EAST, SOUTH)) {
            return failed(BEYOND);
        }
        int number = now.reportGardens.size;
        if (number >= REPORTS_MOST) {
            return failed(FULL);
        }
        now.reportGardens.add(garden);
        now.reportWays.add(way);
        return number;
    }

    public int suspects() {
        return now.suspectsWithout(NOWHERE);
    }

    public int liar() {
        int best = NOWHERE;
        int most = -1;
        for (int k = 0; k < now.reportGardens.size; k++) {
            int left = Integer.bitCount(now.suspectsWithout(k));
            if (left > most) {
                best = k;
                most = left;
            }
        }
        return best == NOWHERE ? failed(NONE) : best;
    }

    // ---- voices, sheets, images, what is told

    public int voice(int place, int voice, int x) {
        if (!isPlace(place) || !within(voice, 0, VOICES - 1)) {
            return failed(BEYOND);
        }
        if (!now.heap.has(place)) {
            return failed(NONE);
        }
        int answer = voices.answerOf(now.heap.kinds[place], place, now.heap.stuffs[place], voice, x);
        return voices.parted ? failed(PARTED) : answer;
    }

    public int body(int i) {
        return voices.trace.has(i) ? voices.trace.items[i] : failed(NONE);
    }

    public int sheet(int sheet, int bits, int n) {
        if (!isSheet(sheet) || (bits != 0 && bits != 8 && bits != 16 && bits != 32)) {
            return failed(BEYOND);
        }
        if (bits != 0 && n < 0) {
            return failed(STATE);
        }
        if (bits != 0 && n > NUMBERS_MOST) {
            return failed(BEYOND);
        }
        sheets[sheet].begin(bits, bits == 0 ? 0 : n);
        return 1;
    }

    public int put(int sheet, int i, int v) {
        if (!isSheet(sheet)) {
            return failed(BEYOND);
        }
        if (sheets[sheet].isMissing()) {
            return failed(NONE);
        }
        if (!sheets[sheet].stand(i, 1)) {
            return failed(BEYOND);
        }
        sheets[sheet].write(i, v);
        return 1;
    }

    public int move(int sheet, int i, int other, int j, int n) {
        if (!isSheet(sheet) || !isSheet(other)) {
            return failed(BEYOND);
        }
        Sheet from = sheets[sheet];
        Sheet to = sheets[other];
        if (from.isMissing() || to.isMissing()) {
            return failed(NONE);
        }
        if (from.bits != to.bits) {
            return failed(OTHER_KIND);
        }
        if (!from.stand(i, n) || !to.stand(j, n)) {
            return failed(BEYOND);
        }
        System.arraycopy(from.numbers, i, to.numbers, j, n);
        return n;
    }

    public int armfuls(int sheet) {
        if (!isSheet(sheet)) {
            return failed(BEYOND);
        }
        if (sheets[sheet].isMissing()) {
            return failed(NONE);
        }
        int came = 0;
        int[] numbers = sheets[sheet].numbers;
        for (int i = 0; i < NUMBERS_MOST && sheets[sheet].stand(i, NUMBERS_AN_ARMFUL); i += NUMBERS_AN_ARMFUL) {
            if (now.heap.layOnTop(numbers[i], numbers[i + 1], numbers[i + 2], numbers[i + 3]) < 0) {
                return came;
            }
            came++;
        }
        return came;
    }

    public int image() {
        kept.copyFrom(now);
        imagesMade++;
        return imagesMade;
    }

    public int restore() {
        if (imagesMade == 0) {
            return failed(NONE);
        }
        now.copyFrom(kept);
        return now.heap.minutes;
    }

    public int tell(int v) {
        return now.waiting.add(v) ? now.waiting.size : failed(FULL);
    }

    public int check(int column) {
        int told = now.waiting.size;
        now.waiting.size = 0;
        if (!within(column, 0, COLUMNS - 1)) {
            return failed(BEYOND);
        }
        int height = now.heap.heightOf(column);
        int both = Math.min(told, height);
        for (int row = 0; row < both; row++) {
            if (now.waiting.items[row] != now.heap.kinds[COLUMNS * row + column]) {
                return 1 + row;
            }
        }
        return told == height ? 0 : 1 + both;
    }

    public int count(int what) {
        switch (what) {
            case 0:
                return now.heap.howMany();
            case 1:
                return now.heap.minutes;
            case 2:
                return now.reportGardens.size;
            case 3:
                return now.heap.settings[CLOCK];
            case 4:
                return now.tape.size;
            case 5:
                return now.waiting.size;
            case 6:
                return voices.trace.size;
            case 7:
                return now.drawn;
            default:
                return failed(BEYOND);
        }
    }

    public int told(int k) {
        return within(k, 1, ERRORS) ? errors[k] : failed(BEYOND);
    }

    // ---- what several calls share

    private int failed(int error) {
        if (within(error, 1, ERRORS)) {
            errors[error]++;
        }
        return LOW - error;
    }

    private boolean bylawLets() {
        if (!now.laws.has(BYLAW)) {
            return true;
        }
        Heap heap = now.heap;
        return now.laws.work(BYLAW, heap.hourNow(), heap.settings[WIND], heap.howManyLit(), heap.howMany()) != 0;
    }

    // How much more BOTHERED there is from the smoke in smokeAhead, if it begins with that HOUR. AHEAD goes
    // no further than an HOUR is long, so that all its MINUTES are of that HOUR.
    private int botheredFrom(int hour, int n) {
        ahead.settings[CLOCK] = MINUTES_AN_HOUR * hour;
        System.arraycopy(now.heap.bothereds, 0, ahead.bothereds, 0, GARDENS);
        for (int k = 0; k < n; k++) {
            ahead.drift(smokeAhead[k], now.laws);
        }
        return ahead.botheredInAll() - now.heap.botheredInAll();
    }

    private static boolean within(int v, int least, int most) {
        return v >= least && v <= most;
    }

    private static boolean isPlace(int place) {
        return place >= 0 && place < PLACES;
    }

    private static boolean isKind(int kind) {
        return kind >= 0 && kind < KINDS;
    }

    private static boolean isUse(int use) {
        return use >= 0 && use < USES;
    }

    private static boolean isGarden(int garden) {
        return garden >= 0 && garden < GARDENS;
    }

    private static boolean isSheet(int sheet) {
        return sheet >= 0 && sheet < SHEETS;
    }

    private static boolean isAhead(int n) {
        return n >= 0 && n <= AHEAD_MOST;
    }

    private static boolean isOfKind(int kind, int wanted) {
        int at = kind;
        for (int k = 0; k < KINDS && isKind(at); k++) {
            if (at == wanted) {
                return true;
            }
            at = KIND_ABOVE[at];
        }
        return false;
    }

    private static int nextGarden(int garden, int way) {
        int x = garden % GARDENS_A_SIDE;
        if (way == EAST) {
            return x < GARDENS_A_SIDE - 1 ? garden + 1 : NOWHERE;
        }
        if (way == WEST) {
            return x > 0 ? garden - 1 : NOWHERE;
        }
        int next = way == NORTH ? garden + GARDENS_A_SIDE : garden - GARDENS_A_SIDE;
        return isGarden(next) ? next : NOWHERE;
    }

    /** A row of numbers that has a bound. */
    private static final class Row {
        final int[] items;
        int size;

        Row(int most) {
            items = new int[Math.max(0, most)];
            size = 0;
        }

        boolean has(int i) {
            return i >= 0 && i < size && i < items.length;
        }

        boolean add(int v) {
            if (size < 0 || size >= items.length) {
                return false;
            }
            items[size] = v;
            size++;
            return true;
        }

        void copyFrom(Row other) {
            size = Math.min(other.size, items.length);
            for (int i = 0; i < size; i++) {
                items[i] = other.items[i];
            }
        }
    }

    /** All that an IMAGE keeps. */
    private static final class State {
        final Heap heap = new Heap();
        final Laws laws = new Laws();
        final Row tape = new Row(TAPE_MOST);
        final Row reportGardens = new Row(REPORTS_MOST);
        final Row reportWays = new Row(REPORTS_MOST);
        final Row waiting = new Row(WAITING_MOST);
        int drawn = 1;

        void copyFrom(State other) {
            heap.copyFrom(other.heap);
            laws.copyFrom(other.laws);
            tape.copyFrom(other.tape);
            reportGardens.copyFrom(other.reportGardens);
            reportWays.copyFrom(other.reportWays);
            waiting.copyFrom(other.waiting);
            drawn = other.drawn;
        }

        int draw() {
            drawn = drawn * 1103515245 + 12345;
            return drawn >>> 8;
        }

        int suspectsWithout(int leftOut) {
            int bits = ALL_GARDENS;
            for (int k = 0; k < reportGardens.size; k++) {
                if (k != leftOut) {
                    bits &= gardensUpwind(reportGardens.items[k], reportWays.items[k]);
                }
            }
            return bits;
        }

        // Smoke comes to a GARDEN from those that lie against the WAY, and from itself.
        private static int gardensUpwind(int garden, int way) {
            int back = (way + 2) % 4;
            int bits = 0;
            int at = garden;
            for (int k = 0; k < GARDENS_A_SIDE && isGarden(at); k++) {
                bits |= 1 << at;
                at = nextGarden(at, back);
            }
            return bits;
        }
    }

    /** The PLACES, the SETTINGS, the GARDENS, and what a MINUTE does to them. AIR is where STUFF is 0. */
    private static final class Heap {
        final int[] kinds = new int[PLACES];
        final int[] stuffs = new int[PLACES];
        final int[] wets = new int[PLACES];
        final int[] looses = new int[PLACES];
        final int[] warms = new int[PLACES];
        final boolean[] lits = new boolean[PLACES];
        final int[] settings = new int[SETTINGS];
        final int[] washings = new int[GARDENS];
        final int[] smelts = new int[GARDENS];
        final int[] bothereds = new int[GARDENS];
        int ashes = 0;
        int burnt = 0;
        int smoke = 0;
        int minutes = 0;

        Heap() {
            System.arraycopy(SETTINGS_FIRST, 0, settings, 0, SETTINGS);
        }

        void copyFrom(Heap other) {
            System.arraycopy(other.kinds, 0, kinds, 0, PLACES);
            System.arraycopy(other.stuffs, 0, stuffs, 0, PLACES);
            System.arraycopy(other.wets, 0, wets, 0, PLACES);
            System.arraycopy(other.looses, 0, looses, 0, PLACES);
            System.arraycopy(other.warms, 0, warms, 0, PLACES);
            System.arraycopy(other.lits, 0, lits, 0, PLACES);
            System.arraycopy(other.settings, 0, settings, 0, SETTINGS);
            System.arraycopy(other.washings, 0, washings, 0, GARDENS);
            System.arraycopy(other.smelts, 0, smelts, 0, GARDENS);
            System.arraycopy(other.bothereds, 0, bothereds, 0, GARDENS);
            ashes = other.ashes;
            burnt = other.burnt;
            smoke = other.smoke;
            minutes = other.minutes;
        }

        boolean has(int place) {
            return stuffs[place] > 0;
        }

        // The PLACE, or an error's number below 0.
        int layOnTop(int kind, int column, int stuff, int wet) {
            if (!isKind(kind) || !within(column, 0, COLUMNS - 1)
                    || !within(stuff, 1, STUFF_MOST) || !within(wet, 0, WET_MOST)) {
                return -BEYOND;
            }
            int row = heightOf(column);
            if (row >= ROWS) {
                return -FULL;
            }
            int place = COLUMNS * row + column;
            kinds[place] = kind;
            stuffs[place] = stuff;
            wets[place] = wet;
            looses[place] = LOOSE_FIRST;
            warms[place] = 0;
            lits[place] = false;
            return place;
        }

        void remove(int place) {
            int top = place;
            for (int from = place + COLUMNS; from < PLACES && stuffs[from] > 0; from += COLUMNS) {
                kinds[top] = kinds[from];
                stuffs[top] = stuffs[from];
                wets[top] = wets[from];
                looses[top] = looses[from];
                warms[top] = warms[from];
                lits[top] = lits[from];
                top = from;
            }
            stuffs[top] = 0;
        }

        int heightOf(int column) {
            int height = 0;
            for (int place = column; place < PLACES && stuffs[place] > 0; place += COLUMNS) {
                height++;
            }
            return height;
        }

        int hourNow() {
            return settings[CLOCK] / MINUTES_AN_HOUR;
        }

        int howMany() {
            int many = 0;
            for (int place = 0; place < PLACES; place++) {
                if (stuffs[place] > 0) {
                    many++;
                }
            }
            return many;
        }

        int howManyLit() {
            int many = 0;
            for (int place = 0; place < PLACES; place++) {
                if (stuffs[place] > 0 && lits[place]) {
                    many++;
                }
            }
            return many;
        }

        boolean canBeLit(int place) {
            return !lits[place] && wets[place] <= settings[DRYNESS] && kinds[place] != LIVED;
        }

        void lightByHand(int place) {
            lits[place] = true;
            warms[place] = Math.max(warms[place], WARM_BY_HAND);
        }

        void pourOn(int place, int water) {
            wets[place] = Math.min(wets[place] + water, WET_MOST);
            warms[place] = Math.max(warms[place] - water, 0);
        }

        void pourOnLit(int water) {
            for (int place = 0; place < PLACES; place++) {
                if (stuffs[place] > 0 && lits[place]) {
                    pourOn(place, water);
                }
            }
        }

        // Below an ARMFUL there is never AIR, so only three sides can be open.
        int draughtOf(int place) {
            int column = place % COLUMNS;
            boolean left = column == 0 || stuffs[place - 1] == 0;
            boolean right = column == COLUMNS - 1 || stuffs[place + 1] == 0;
            boolean above = place + COLUMNS >= PLACES || stuffs[place + COLUMNS] == 0;
            int open = (left ? 1 : 0) + (right ? 1 : 0) + (above ? 1 : 0);
            int way = settings[WAY];
            boolean windy = way == EAST ? left : way == WEST ? right : above;
            return open * looses[place] + (windy ? settings[WIND] : 0);
        }

        void pass(int n, Laws laws) {
            for (int k = 0; k < n; k++) {
                int made = burn(laws);
                drift(made, laws);
                smoke = Math.min(smoke + made, SUM_MOST);
                settings[CLOCK] = (settings[CLOCK] + 1) % MINUTES_A_DAY;
                minutes++;
            }
        }

        // What a MINUTE does to the PLACES: the smoke of it.
        int burn(Laws laws) {
            int made = 0;
            for (int place = 0; place < PLACES; place++) {
                // Nothing can befall an ARMFUL that is neither LIT nor warm: no CATCH is 0.
                if (stuffs[place] > 0 && (lits[place] || warms[place] > 0)) {
                    made += lits[place] ? burnAt(place, laws) : 0;
                    if (stuffs[place] == 0) {
                        remove(place);
                        ashes++;
                    } else {
                        warmNeighbours(place);
                        dryAndCool(place);
                    }
                }
            }
            return made;
        }

        private int burnAt(int place, Laws laws) {
            int stuff = stuffs[place];
            int draught = draughtOf(place);
            int told = laws.has(BURNING)
                    ? laws.work(BURNING, draught, stuff, wets[place], warms[place])
                    : draught / 4 + 1;
            int held = Math.max(1, Math.min(told, stuff));
            int burns = Math.min(burnsAsKind(kinds[place], held), stuff);
            stuffs[place] = stuff - burns;
            warms[place] = Math.min(warms[place] + burns * HEATS[kinds[place]], WARM_MOST);
            burnt = Math.min(burnt + burns, SUM_MOST);
            return burns * (wets[place] + 10) / 20;
        }

        private static int burnsAsKind(int kind, int told) {
            switch (kind) {
                case DRY:
                    return 2 * told;
                case PAPER:
                    return 3 * 2 * told;
                case DAMP:
                case GREEN:
                    return told / 2;
                case LIVED:
                    return 0;
                default:
                    return told;
            }
        }

        private void warmNeighbours(int place) {
            int column = place % COLUMNS;
            if (column > 0) {
                giveWarm(place, place - 1);
            }
            if (column < COLUMNS - 1) {
                giveWarm(place, place + 1);
            }
            if (place + COLUMNS < PLACES) {
                giveWarm(place, place + COLUMNS);
            }
            if (place >= COLUMNS) {
                giveWarm(place, place - COLUMNS);
            }
        }

        private void giveWarm(int from, int to) {
            if (stuffs[to] > 0) {
                int given = warms[from] / 8;
                warms[to] = Math.min(warms[to] + given, WARM_MOST);
                warms[from] -= given;
            }
        }

        private void dryAndCool(int place) {
            int warm = warms[place];
            int wet = Math.max(wets[place] - warm / 20, 0);
            wets[place] = wet;
            if (wet <= settings[DRYNESS] && warm >= CATCHES[kinds[place]]) {
                lits[place] = true;
            }
            warm = Math.max(warm - warm / 10 - 1, 0);
            warms[place] = warm;
            if (warm < WARM_TO_GLOW || wet > WET_TO_GLOW) {
                lits[place] = false;
            }
        }

        // What lies of a MINUTE's smoke goes over the GARDENS.
        void drift(int made, Laws laws) {
            if (made == 0) {
                return;
            }
            int hour = hourNow();
            int rest = made * lyingOf(made, hour, laws) / 100;
            int garden = settings[HOME];
            for (int k = 0; k < GARDENS_A_SIDE && isGarden(garden); k++) {
                int half = rest / 2;
                smelts[garden] = Math.min(smelts[garden] + half, SUM_MOST);
                if ((washings[garden] >> hour & 1) != 0) {
                    bothereds[garden] = Math.min(bothereds[garden] + half, SUM_MOST);
                }
                rest -= half;
                garden = nextGarden(garden, settings[WAY]);
            }
        }

        private int lyingOf(int made, int hour, Laws laws) {
            if (!laws.has(LYING)) {
                return hour >= 18 || hour < 6 ? 90 : 40;
            }
            return Math.max(0, Math.min(laws.work(LYING, hour, settings[WIND], made, 0), 100));
        }

        // Nine of the greatest would wrap, but what one sum is more than another does not.
        int botheredInAll() {
            int sum = 0;
            for (int garden = 0; garden < GARDENS; garden++) {
                sum += bothereds[garden];
            }
            return sum;
        }

        // PLACES as bits: each round adds what lies beside those found, and no chain is longer than the PLACES are many.
        int hangingWith(int place) {
            int all = 0;
            for (int k = 0; k < PLACES; k++) {
                all |= stuffs[k] > 0 ? 1 << k : 0;
            }
            int found = 1 << place;
            for (int k = 0; k < PLACES; k++) {
                found = besideToo(found) & all;
            }
            return found;
        }

        private static int besideToo(int found) {
            int wide = found;
            for (int place = 0; place < PLACES; place++) {
                if ((found >> place & 1) != 0) {
                    int column = place % COLUMNS;
                    wide |= column > 0 ? 1 << (place - 1) : 0;
                    wide |= column < COLUMNS - 1 ? 1 << (place + 1) : 0;
                    wide |= place + COLUMNS < PLACES ? 1 << (place + COLUMNS) : 0;
                    wide |= place >= COLUMNS ? 1 << (place - COLUMNS) : 0;
                }
            }
            return wide;
        }

        int armfulTells(int place, int what) {
            switch (what) {
                case 0:
                    return kinds[place];
                case 1:
                    return stuffs[place];
                case 2:
                    return wets[place];
                case 3:
                    return looses[place];
                case 4:
                    return warms[place];
                case 5:
                    return lits[place] ? 1 : 0;
                case 6:
                    return draughtOf(place);
                case 7:
                    return HEATS[kinds[place]];
                default:
                    return CATCHES[kinds[place]];
            }
        }

        int gardenTells(int garden, int what) {
            switch (what) {
                case 0:
                    return smelts[garden];
                case 1:
                    return bothereds[garden];
                default:
                    return washings[garden];
            }
        }

        int heapTells(int what) {
            switch (what) {
                case 0:
                    return sumOf(stuffs);
                case 1:
                    return howManyLit();
                case 2:
                    return sumOf(warms);
                case 3:
                    return ashes;
                case 4:
                    return burnt;
                case 5:
                    return smoke;
                case 6:
                    return highest();
                default:
                    return sumOf(wets);
            }
        }

        private int sumOf(int[] numbers) {
            int sum = 0;
            for (int place = 0; place < PLACES; place++) {
                if (stuffs[place] > 0) {
                    sum += numbers[place];
                }
            }
            return sum;
        }

        private int highest() {
            int most = 0;
            for (int column = 0; column < COLUMNS; column++) {
                most = Math.max(most, heightOf(column));
            }
            return most;
        }
    }

    /** The TEXTS of the USES, as parts of which each sign stands behind what it joins. */
    private static final class Laws {
        final Row[] codes = new Row[USES];
        private final int[] stack = new int[TAPE_MOST];

        Laws() {
            for (int use = 0; use < USES; use++) {
                codes[use] = new Row(TAPE_MOST);
            }
        }

        boolean has(int use) {
            return codes[use].size > 0;
        }

        void copyFrom(Laws other) {
            for (int use = 0; use < USES; use++) {
                codes[use].copyFrom(other.codes[use]);
            }
        }

        int work(int use, int first, int second, int third, int fourth) {
            int top = 0;
            Row code = codes[use];
            for (int i = 0; i < code.size; i++) {
                int part = code.items[i];
                if (part < SIGN) {
                    if (top >= TAPE_MOST) {
                        return 0;
                    }
                    switch (part) {
                        case NAME:
                            stack[top] = first;
                            break;
                        case NAME + 1:
                            stack[top] = second;
                            break;
                        case NAME + 2:
                            stack[top] = third;
                            break;
                        case NAME + 3:
                            stack[top] = fourth;
                            break;
                        default:
                            stack[top] = part;
                            break;
                    }
                    top++;
                } else if (part == SIGN + '!') {
                    if (top < 1) {
                        return 0;
                    }
                    stack[top - 1] = stack[top - 1] == 0 ? 1 : 0;
                } else {
                    if (top < 2) {
                        return 0;
                    }
                    top--;
                    stack[top - 1] = joined(part - SIGN, stack[top - 1], stack[top]);
                }
            }
            return top > 0 ? stack[top - 1] : 0;
        }

        private static int joined(int sign, int a, int b) {
            switch (sign) {
                case '|':
                    return a != 0 || b != 0 ? 1 : 0;
                case '&':
                    return a != 0 && b != 0 ? 1 : 0;
                case '<':
                    return a < b ? 1 : 0;
                case '=':
                    return a == b ? 1 : 0;
                case '>':
                    return a > b ? 1 : 0;
                case '+':
                    return a + b;
                case '-':
                    return a - b;
                case '*':
                    return a * b;
                case '/':
                    return b == 0 ? 0 : a / b;
                default:
                    return b == 0 ? 0 : a % b;
            }
        }
    }

    /** Reads a TEXT from THE TAPE into a code, or finds its FAULT. */
    private static final class Reader {
        private static final int COMPARING = 2;
        private static final int UNITS = 5;
        final Row code = new Row(TAPE_MOST);
        private Row tape = code;
        private String names = "";
        private int at = 0;
        private boolean faulty = false;

        int faultOf(Row given, int use) {
            tape = given;
            names = namesOf(use);
            at = 0;
            faulty = false;
            code.size = 0;
            readLevel(0, 0);
            return faulty || at < tape.size ? at : NOWHERE;
        }

        private static String namesOf(int use) {
            switch (use) {
                case BURNING:
                    return "dswr";
                case BYLAW:
                    return "hwln";
                default:
                    return "hws";
            }
        }

        private static String signsOf(int level) {
            switch (level) {
                case 0:
                    return "|";
                case 1:
                    return "&";
                case COMPARING:
                    return "<=>";
                case 3:
                    return "+-";
                default:
                    return "*/%";
            }
        }

        // 0 behind the end: no sign, digit or NAME is that.
        private char next() {
            return tape.has(at) ? (char) tape.items[at] : 0;
        }

        private void readLevel(int level, int open) {
            if (level >= UNITS) {
                readUnit(open);
                return;
            }
            readLevel(level + 1, open);
            int most = level == COMPARING ? 1 : TAPE_MOST;
            for (int k = 0; k < most && !faulty && signsOf(level).indexOf(next()) >= 0; k++) {
                char sign = next();
                at++;
                readLevel(level + 1, open);
                code.add(SIGN + sign);
            }
        }

        private void readUnit(int open) {
            char c = next();
            int name = names.indexOf(c);
            if (isDigit(c)) {
                readNumber();
            } else if (name >= 0) {
                at++;
                code.add(NAME + name);
            } else if (c == '!' && open < OPEN_MOST) {
                at++;
                readUnit(open + 1);
                code.add(SIGN + c);
            } else if (c == '(' && open < OPEN_MOST) {
                at++;
                readLevel(0, open + 1);
                readClosing();
            } else {
                faulty = true;
            }
        }

        private void readClosing() {
            if (faulty) {
                return;
            }
            if (next() == ')') {
                at++;
            } else {
                faulty = true;
            }
        }

        private void readNumber() {
            int number = 0;
            for (int k = 0; k < DIGITS_MOST && isDigit(next()); k++) {
                number = 10 * number + (next() - '0');
                at++;
            }
            code.add(number);
        }

        private static boolean isDigit(char c) {
            return c >= '0' && c <= '9';
        }
    }

    /** One ARMFUL that speaks, and THE TRACE of what it spoke last, PARTED or not. */
    private static final class Voices {
        final Row trace = new Row(TRACE_MOST);
        boolean parted = false;
        private int kind = 0;
        private int place = 0;
        private int stuff = 0;

        // What it answers is free if it is parted then.
        int answerOf(int itsKind, int itsPlace, int itsStuff, int voice, int x) {
            kind = itsKind;
            place = itsPlace;
            stuff = itsStuff;
            parted = false;
            trace.size = 0;
            return speak(kind, voice, x, 0);
        }

        // The BODY of a KIND, or of the next one above that has one; behind one that PARTED none begins.
        private int speak(int from, int voice, int x, int depth) {
            int owner = ownerOf(from, voice);
            if (parted || depth > DEPTH_MOST || owner == NOWHERE) {
                return 0;
            }
            int above = KIND_ABOVE[owner];
            int deeper = depth + 1;
            int number = BODIES[VOICES * owner + voice];
            trace.add(number);
            switch (number) {
                case 10:
                    return x + stuff;
                case 11:
                    return speak(kind, DRIES, x, deeper) * 2;
                case 12:
                    return speak(kind, BURNS, x, deeper) - place;
                case 13:
                    return shared(x);
                case 20:
                    return speak(above, DRIES, x, deeper) - 7;
                case 21:
                    return speak(above, MINDS, x, deeper) + speak(kind, BURNS, 1, deeper);
                case 30:
                    return speak(above, SMOKES, x, deeper) ^ stuff;
                case 40:
                    return speak(above, DRIES, x / 2, deeper);
                case 41:
                    return 0 - speak(above, BURNS, x, deeper);
                case 50:
                    return speak(above, SMOKES, x + 1, deeper);
                case 51:
                    return speak(above, MINDS, x, deeper) - speak(kind, SMOKES, 0, deeper);
                case 60:
                    return speak(above, BURNS, x, deeper) + place;
                case 70:
                    return 3;
                default:
                    return speak(above, SMOKES, x, deeper) * 5;
            }
        }

        private int shared(int x) {
            int by = stuff - place;
            if (by == 0) {
                parted = true;
                return 0;
            }
            return x / by;
        }

        private static int ownerOf(int from, int voice) {
            int at = from;
            for (int k = 0; k < KINDS && isKind(at); k++) {
                if (BODIES[VOICES * at + voice] != 0) {
                    return at;
                }
                at = KIND_ABOVE[at];
            }
            return NOWHERE;
        }
    }

    /** A row of numbers of 8, 16 or 32 bits; of 0 bits it is missing. */
    private static final class Sheet {
        final int[] numbers = new int[NUMBERS_MOST];
        int bits = 0;
        private int size = 0;

        boolean isMissing() {
            return bits == 0;
        }

        void begin(int itsBits, int n) {
            bits = itsBits;
            size = Math.min(n, NUMBERS_MOST);
            for (int i = 0; i < NUMBERS_MOST; i++) {
                numbers[i] = 0;
            }
        }

        // Whether there are n numbers from number i on; no sum, as that could wrap.
        boolean stand(int i, int n) {
            return i >= 0 && n >= 0 && n <= size && i <= size - n;
        }

        void write(int i, int v) {
            numbers[i] = bits == 8 ? (byte) v : bits == 16 ? (short) v : v;
        }
    }
}
