/**
 * A parcel desk: a scale that drifts, is zeroed, tracks its zero, tares and waits until it is
 * steady; parcels with real and dimensional weights, of which the greater one counts; bands of
 * prices by zones, rules with conditions as texts; charges with reasons, disputes that are accepted
 * or rejected, and what would make a parcel cheaper.
 */
public final class ParcelDesk {
    public static final int BAD = -1000001;
    public static final int STATE = -1000002;
    public static final int FULL = -1000003;
    public static final int NONE = -1000009;

    private static final int DRIFT = 0;
    private static final int SPAN_ERROR = 1;
    private static final int STEP = 2;
    private static final int CAPACITY = 3;
    private static final int STEADY_BAND = 4;
    private static final int TRACKING_BAND = 5;
    private static final int DIVISOR = 6;
    private static final int UNIT = 7;
    private static final int[] LOWEST_SETTING = {-20, -20, 1, 1000, 0, 0, 1000, 1};
    private static final int[] HIGHEST_SETTING = {20, 20, 100, 70000, 100, 200, 9999, 1000};

    private static final int ZONES = 4;
    private static final int BANDS_OF_ZONE = 6;
    private static final int RULE_ROOM = 8;
    private static final int TEXT_ROOM = 60;
    private static final int PARCEL_ROOM = 30;
    private static final int NOTE_ROOM = 20;
    private static final int HISTORY_ROOM = 4;

    private static final int HEAVIEST = 100000;
    private static final int LONGEST_SIDE = 2000;
    private static final int LAST_TIME = 100000;
    private static final int MOST_TICKS = 100;
    private static final int HIGHEST_PRICE = 100000;
    private static final int HIGHEST_EXTRA = 10000;
    private static final int EXTRA_WEIGHT = 1000;
    private static final int HIGHEST_CHARGE = 1000000000;
    private static final int TEXT_ERROR = -100;

    // Columns of a parcel's row: up to the girth they are the numbers that parcel() is asked for.
    private static final int REAL = 0;
    private static final int SIDE_A = 1;
    private static final int SIDE_B = 2;
    private static final int SIDE_C = 3;
    private static final int ZONE = 4;
    private static final int DIMENSIONAL = 5;
    private static final int BILLED = 6;
    private static final int BASE = 7;
    private static final int CHARGE = 8;
    private static final int GIRTH = 9;
    private static final int LONGEST = 10;
    private static final int REASONS = 11;
    private static final int FIRST_REASON = 12;
    private static final int PARCEL_WIDTH = FIRST_REASON + 2 + RULE_ROOM;

    private static final int ASK_OPEN_NOTE = 10;
    private static final int LAST_SCALE_NUMBER = 10;
    private static final int LAST_SUM = 4;

    private static final int REAL_WAS_GREATER = 1;
    private static final int DIMENSIONAL_WAS_GREATER = 2;
    private static final int BOTH_WERE_THE_SAME = 3;
    private static final int BAND_REASON = 10;
    private static final int EXTRA_REASON = 20;
    private static final int RULE_REASON = 30;

    // Columns of a note's row: the numbers that note() is asked for.
    private static final int ABOUT = 0;
    private static final int WHICH = 1;
    private static final int CLAIMED = 2;
    private static final int CLAIM = 3;
    private static final int NOTE_STATE = 4;
    private static final int REFUND = 5;
    private static final int NOTE_WIDTH = 6;

    private static final int OPEN = 0;
    private static final int ACCEPTED = 1;
    private static final int REJECTED = 2;

    // Columns of a rule's row; a token that is no comparison is minus its character.
    private static final int TOKENS = 0;
    private static final int CHANGE = 1;
    private static final int AMOUNT = 2;
    private static final int FIRST_TOKEN = 3;
    private static final int RULE_WIDTH = FIRST_TOKEN + TEXT_ROOM;

    private static final String LETTERS = "wrvglz";
    private static final int[] LETTER_COLUMNS = {BILLED, REAL, DIMENSIONAL, GIRTH, LONGEST, ZONE};
    private static final String RELATIONS = "<=>";
    private static final int RELATION_COUNT = 3;
    private static final int NUMBERS = 100000;
    private static final int MOST_DIGITS = 5;

    private final State now = new State();
    private final State[] past = new State[HISTORY_ROOM];
    private int pastCount;
    /** The place in the ring of past states where the next one goes. */
    private int pastNext;
    private final int[] buffer = new int[TEXT_ROOM];
    private int typed;
    private final RuleReader reader = new RuleReader();
    /** One row, used again for every charge that is worked out only to be told. */
    private final Table trial = new Table(1, PARCEL_WIDTH);

    public ParcelDesk() {
        for (int i = 0; i < past.length; i++) {
            past[i] = new State();
        }
        trial.addRow();
    }

    // ---- the scale

    public int set(int setting, int value) {
        if (!isIndex(setting, LOWEST_SETTING) || !isIndex(setting, HIGHEST_SETTING)) {
            return BAD;
        }
        if (!isWithin(value, LOWEST_SETTING[setting], HIGHEST_SETTING[setting])) {
            return BAD;
        }
        int previous = now.scale.settingOf(setting);
        remember();
        now.scale.putSetting(setting, value);
        return previous;
    }

    public int setting(int setting) {
        return isIndex(setting, LOWEST_SETTING) ? now.scale.settingOf(setting) : BAD;
    }

    public int load(int load) {
        if (!isWithin(load, 0, HEAVIEST)) {
            return BAD;
        }
        int previous = now.scale.load;
        remember();
        now.scale.putLoad(load);
        return previous;
    }

    public int tick(int ticks) {
        if (!isWithin(ticks, 1, MOST_TICKS)) {
            return BAD;
        }
        if (now.scale.time > LAST_TIME - ticks) {
            return STATE;
        }
        remember();
        for (int i = 0; i < ticks; i++) {
            now.scale.passTick();
        }
        return now.scale.rawReading();
    }

    public int zero() {
        Scale scale = now.scale;
        if (!scale.isSteady() || !scale.isNearZero()) {
            return STATE;
        }
        int previous = scale.zero;
        remember();
        scale.zero = scale.rawReading();
        scale.tare = 0;
        return previous;
    }

    public int tare() {
        Scale scale = now.scale;
        if (!scale.isSteady() || scale.isOver() || scale.grossWeight() < 0) {
            return STATE;
        }
        remember();
        scale.tare = scale.grossWeight();
        return scale.tare;
    }

    public int scale(int what) {
        return isWithin(what, 0, LAST_SCALE_NUMBER) ? now.scale.number(what) : BAD;
    }

    // ---- prices

    public int band(int zone, int limit, int price) {
        if (!isZone(zone) || !isWithin(limit, 1, HEAVIEST) || !isWithin(price, 0, HIGHEST_PRICE)) {
            return BAD;
        }
        Bands bands = now.bands;
        int index = bands.bandFor(zone, limit);
        boolean isNew = !bands.hasBand(zone, index) || bands.limitOf(zone, index) != limit;
        if (isNew && bands.bandsOf(zone) >= BANDS_OF_ZONE) {
            return FULL;
        }
        remember();
        if (isNew) {
            bands.openBand(zone, index);
        }
        bands.putBand(zone, index, limit, price);
        return index;
    }

    public int unband(int zone, int index) {
        if (!now.bands.hasBand(zone, index)) {
            return BAD;
        }
        remember();
        now.bands.closeBand(zone, index);
        return now.bands.bandsOf(zone);
    }

    public int bandAt(int zone, int index, int what) {
        if (!now.bands.hasBand(zone, index) || !isWithin(what, 0, 1)) {
            return BAD;
        }
        return what == 0 ? now.bands.limitOf(zone, index) : now.bands.priceOf(zone, index);
    }

    public int setExtra(int zone, int extra) {
        if (!isZone(zone) || !isWithin(extra, 0, HIGHEST_EXTRA)) {
            return BAD;
        }
        int previous = now.bands.extraOf(zone);
        remember();
        now.bands.putExtra(zone, extra);
        return previous;
    }

    public int type(int c) {
        if (!isWithin(c, ' ', '~')) {
            return BAD;
        }
        if (typed < 0 || typed >= buffer.length) {
            return FULL;
        }
        buffer[typed] = c;
        typed++;
        return typed;
    }

    public int clear() {
        int had = typed;
        typed = 0;
        return had;
    }

    public int rule() {
        int stop = readBuffer();
        if (stop < typed || !reader.isComplete()) {
            return TEXT_ERROR - stop;
        }
        if (now.rules.count() >= RULE_ROOM) {
            return FULL;
        }
        remember();
        now.rules.addRule(reader);
        typed = 0;
        return now.rules.count();
    }

    public int unrule() {
        if (now.rules.count() <= 0) {
            return STATE;
        }
        remember();
        now.rules.dropRule();
        return now.rules.count();
    }

    public int rules() {
        return now.rules.count();
    }

    // ---- parcels

    public int take(int a, int b, int c, int zone) {
        if (!areSides(a, b, c) || !isZone(zone)) {
            return BAD;
        }
        Scale scale = now.scale;
        if (!scale.isSteady() || scale.isOver() || scale.netWeight() < 1 || !hasBands(zone)) {
            return STATE;
        }
        if (now.parcels.count >= PARCEL_ROOM) {
            return FULL;
        }
        remember();
        int number = now.parcels.addRow();
        describe(now.parcels, number, scale.netWeight(), a, b, c, zone);
        now.price(now.parcels, number);
        return number;
    }

    public int quote(int weight, int a, int b, int c, int zone) {
        if (!isWithin(weight, 1, HEAVIEST) || !areSides(a, b, c) || !isZone(zone)) {
            return BAD;
        }
        if (!hasBands(zone)) {
            return STATE;
        }
        describe(trial, 0, weight, a, b, c, zone);
        return trialCharge();
    }

    public int parcel(int parcel, int what) {
        if (!now.parcels.has(parcel) || !isWithin(what, 0, ASK_OPEN_NOTE)) {
            return BAD;
        }
        return what == ASK_OPEN_NOTE ? openNote(parcel) : now.parcels.cell(parcel, what);
    }

    public int why(int parcel, int i) {
        if (!now.parcels.has(parcel) || i < 0) {
            return BAD;
        }
        if (i >= now.parcels.cell(parcel, REASONS)) {
            return NONE;
        }
        return now.parcels.cell(parcel, FIRST_REASON + i);
    }

    public int parcels() {
        return now.parcels.count;
    }

    public float density(int parcel) {
        if (!now.parcels.has(parcel)) {
            return -1;
        }
        int volume = volume(now.parcels, parcel);
        return volume < 1 ? -1 : (float) now.parcels.cell(parcel, REAL) / (float) volume;
    }

    // ---- disputes

    public int dispute(int parcel, int what, int value) {
        if (!now.parcels.has(parcel) || !isWithin(what, REAL, SIDE_C)) {
            return BAD;
        }
        if (!isWithin(value, 1, what == REAL ? HEAVIEST : LONGEST_SIDE)) {
            return BAD;
        }
        if (openNote(parcel) != NONE || !hasBands(now.parcels.cell(parcel, ZONE))) {
            return STATE;
        }
        if (now.notes.count >= NOTE_ROOM) {
            return FULL;
        }
        remember();
        return writeNote(parcel, what, value);
    }

    public int settle(int note, boolean accept) {
        if (!now.notes.has(note)) {
            return BAD;
        }
        if (now.notes.cell(note, NOTE_STATE) != OPEN) {
            return STATE;
        }
        remember();
        if (!accept) {
            now.notes.put(note, NOTE_STATE, REJECTED);
            return 0;
        }
        return acceptNote(note);
    }

    public int note(int note, int what) {
        if (!now.notes.has(note) || !isWithin(what, 0, NOTE_WIDTH - 1)) {
            return BAD;
        }
        return now.notes.cell(note, what);
    }

    public int notes() {
        return now.notes.count;
    }

    public long sum(int what) {
        switch (what) {
            case 0:
                return now.parcels.columnSum(CHARGE);
            case 1:
                return now.notes.columnSum(REFUND);
            case 2:
                return now.parcels.columnSum(REAL);
            case 3:
                return now.parcels.columnSum(BILLED);
            case 4:
                return now.parcels.rowsWith(FIRST_REASON, DIMENSIONAL_WAS_GREATER);
            default:
                return BAD;
        }
    }

    // ---- what would be cheaper

    public int lighter(int parcel) {
        if (!now.parcels.has(parcel)) {
            return BAD;
        }
        if (!hasBands(now.parcels.cell(parcel, ZONE))) {
            return STATE;
        }
        trial.copyRow(0, now.parcels, parcel);
        int real = trial.cell(0, REAL);
        int charge = trialCharge();
        for (int steps = 0; steps < HEAVIEST; steps++) {
            int weight = now.nextLower(trial, 0);
            if (weight < 1) {
                return NONE;
            }
            trial.put(0, REAL, weight);
            if (trialCharge() < charge) {
                return real - weight;
            }
        }
        return NONE;
    }

    public int shorter(int parcel, int side) {
        if (!now.parcels.has(parcel) || !isWithin(side, SIDE_A, SIDE_C)) {
            return BAD;
        }
        if (!hasBands(now.parcels.cell(parcel, ZONE))) {
            return STATE;
        }
        trial.copyRow(0, now.parcels, parcel);
        int length = trial.cell(0, side);
        int charge = trialCharge();
        for (int less = 1; less < length; less++) {
            trial.put(0, side, length - less);
            if (trialCharge() < charge) {
                return less;
            }
        }
        return NONE;
    }

    public int cheapest(int parcel) {
        if (!now.parcels.has(parcel)) {
            return BAD;
        }
        trial.copyRow(0, now.parcels, parcel);
        int best = NONE;
        int least = 0;
        for (int zone = 0; zone < ZONES; zone++) {
            if (hasBands(zone)) {
                trial.put(0, ZONE, zone);
                int charge = trialCharge();
                if (best == NONE || charge < least) {
                    best = zone;
                    least = charge;
                }
            }
        }
        return best;
    }

    // ---- history

    public int undo() {
        if (pastCount <= 0) {
            return NONE;
        }
        pastCount--;
        pastNext = pastNext > 0 ? pastNext - 1 : HISTORY_ROOM - 1;
        if (pastNext >= 0 && pastNext < past.length && past[pastNext] != null) {
            now.copyFrom(past[pastNext]);
        }
        return pastCount;
    }

    public long fingerprint() {
        long print = 191;
        for (int i = 0; i < LOWEST_SETTING.length; i++) {
            print = 31 * print + setting(i);
        }
        for (int i = 0; i <= LAST_SCALE_NUMBER; i++) {
            print = 31 * print + scale(i);
        }
        print = printBands(print);
        print = 31 * print + rules();
        print = printParcels(print);
        print = printNotes(print);
        for (int i = 0; i <= LAST_SUM; i++) {
            print = 31 * print + sum(i);
        }
        return print;
    }

    private long printBands(long start) {
        long print = start;
        for (int zone = 0; zone < ZONES; zone++) {
            int bands = now.bands.bandsOf(zone);
            print = 31 * print + bands;
            for (int i = 0; i < bands; i++) {
                print = 31 * print + bandAt(zone, i, 0);
                print = 31 * print + bandAt(zone, i, 1);
            }
            print = 31 * print + now.bands.extraOf(zone);
        }
        return print;
    }

    private long printParcels(long start) {
        int count = parcels();
        long print = 31 * start + count;
        for (int p = 0; p < count; p++) {
            for (int what = 0; what <= ASK_OPEN_NOTE; what++) {
                print = 31 * print + parcel(p, what);
            }
            int reasons = now.parcels.cell(p, REASONS);
            for (int i = 0; i < reasons; i++) {
                print = 31 * print + why(p, i);
            }
        }
        return print;
    }

    private long printNotes(long start) {
        int count = notes();
        long print = 31 * start + count;
        for (int n = 0; n < count; n++) {
            for (int what = 0; what < NOTE_WIDTH; what++) {
                print = 31 * print + note(n, what);
            }
        }
        return print;
    }

    /** Every act calls this behind its last test for errors and ahead of its first change. */
    private void remember() {
        if (pastNext >= 0 && pastNext < past.length && past[pastNext] != null) {
            past[pastNext].copyFrom(now);
        }
        pastNext = pastNext + 1 < HISTORY_ROOM ? pastNext + 1 : 0;
        if (pastCount < HISTORY_ROOM) {
            pastCount++;
        }
    }

    /** Returns the index of the first character that cannot stand, or the length of the text. */
    private int readBuffer() {
        reader.start();
        for (int i = 0; i < typed && i < buffer.length; i++) {
            if (!reader.accepts(buffer[i])) {
                return i;
            }
        }
        return typed;
    }

    private int trialCharge() {
        now.price(trial, 0);
        return trial.cell(0, CHARGE);
    }

    private boolean hasBands(int zone) {
        return now.bands.bandsOf(zone) > 0;
    }

    private int openNote(int parcel) {
        for (int n = 0; n < now.notes.count; n++) {
            if (now.notes.cell(n, ABOUT) == parcel && now.notes.cell(n, NOTE_STATE) == OPEN) {
                return n;
            }
        }
        return NONE;
    }

    private int writeNote(int parcel, int what, int value) {
        int number = now.notes.addRow();
        now.claims.addRow();
        now.claims.copyRow(number, now.parcels, parcel);
        now.claims.put(number, what, value);
        now.price(now.claims, number);
        now.notes.put(number, ABOUT, parcel);
        now.notes.put(number, WHICH, what);
        now.notes.put(number, CLAIMED, value);
        now.notes.put(number, CLAIM, now.claims.cell(number, CHARGE));
        now.notes.put(number, NOTE_STATE, OPEN);
        now.notes.put(number, REFUND, 0);
        return number;
    }

    /**
     * The whole row of the claim may replace the parcel's: nothing but an accepted note changes a
     * parcel, and it has no other open one.
     */
    private int acceptNote(int note) {
        int parcel = now.notes.cell(note, ABOUT);
        int refund = now.parcels.cell(parcel, CHARGE) - now.claims.cell(note, CHARGE);
        now.parcels.copyRow(parcel, now.claims, note);
        now.notes.put(note, NOTE_STATE, ACCEPTED);
        now.notes.put(note, REFUND, refund);
        return refund;
    }

    private static boolean isWithin(int value, int lowest, int highest) {
        return value >= lowest && value <= highest;
    }

    private static boolean isIndex(int index, int[] row) {
        return index >= 0 && index < row.length;
    }

    private static boolean isZone(int zone) {
        return isWithin(zone, 0, ZONES - 1);
    }

    private static boolean isSide(int side) {
        return isWithin(side, 1, LONGEST_SIDE);
    }

    private static boolean areSides(int a, int b, int c) {
        return isSide(a) && isSide(b) && isSide(c);
    }

    private static void describe(Table table, int row, int weight, int a, int b, int c, int zone) {
        table.put(row, REAL, weight);
        table.put(row, SIDE_A, a);
        table.put(row, SIDE_B, b);
        table.put(row, SIDE_C, c);
        table.put(row, ZONE, zone);
    }

    /** In cubic centimeters, each begun one of a side whole. */
    private static int volume(Table table, int row) {
        int volume = 1;
        for (int side = SIDE_A; side <= SIDE_C; side++) {
            volume *= (table.cell(row, side) + 9) / 10;
        }
        return volume;
    }

    /** Of two numbers from 0 on; by a divisor below 1 nothing is divided. */
    private static int dividedUp(long number, int divisor) {
        return divisor < 1 ? 0 : (int) ((number + divisor - 1) / divisor);
    }

    /** The greatest multiple of a step that a number, from 0 on, reaches. */
    private static int wholeSteps(int number, int step) {
        return step < 1 ? 0 : number / step * step;
    }

    private static void addReason(Table table, int row, int reason) {
        int reasons = table.cell(row, REASONS);
        table.put(row, FIRST_REASON + reasons, reason);
        table.put(row, REASONS, reasons + 1);
    }

    /** Everything that the history keeps. */
    private static final class State {
        final Scale scale = new Scale();
        final Bands bands = new Bands();
        final Rules rules = new Rules();
        final Table parcels = new Table(PARCEL_ROOM, PARCEL_WIDTH);
        final Table notes = new Table(NOTE_ROOM, NOTE_WIDTH);
        /** For each note the row that its parcel gets if the note is accepted. */
        final Table claims = new Table(NOTE_ROOM, PARCEL_WIDTH);

        void copyFrom(State other) {
            scale.copyFrom(other.scale);
            bands.copyFrom(other.bands);
            rules.copyFrom(other.rules);
            parcels.copyFrom(other.parcels);
            notes.copyFrom(other.notes);
            claims.copyFrom(other.claims);
        }

        /** Fills in the columns from the dimensional weight on, from those ahead of it. */
        void price(Table table, int row) {
            int real = table.cell(row, REAL);
            int dimensional = dividedUp(volume(table, row) * 1000L, scale.settingOf(DIVISOR));
            int unit = scale.settingOf(UNIT);
            table.put(row, DIMENSIONAL, dimensional);
            table.put(row, BILLED, dividedUp(Math.max(real, dimensional), unit) * unit);
            measure(table, row);
            table.put(row, REASONS, 0);
            addReason(table, row, weightReason(real, dimensional));
            table.put(row, BASE, bands.base(table, row));
            table.put(row, CHARGE, rules.charge(table, row));
        }

        private static void measure(Table table, int row) {
            int a = table.cell(row, SIDE_A);
            int b = table.cell(row, SIDE_B);
            int c = table.cell(row, SIDE_C);
            int longest = Math.max(a, Math.max(b, c));
            table.put(row, LONGEST, longest);
            table.put(row, GIRTH, longest + 2 * (a + b + c - longest));
        }

        private static int weightReason(int real, int dimensional) {
            if (real == dimensional) {
                return BOTH_WERE_THE_SAME;
            }
            return real > dimensional ? REAL_WAS_GREATER : DIMENSIONAL_WAS_GREATER;
        }

        /**
         * The greatest real weight below that of a priced row at which its charge can be another
         * one, or a number below 1. Between two such weights neither the real nor the billed weight
         * passes anything that it is compared with, so a search may leap from one to the next.
         */
        int nextLower(Table table, int row) {
            int real = table.cell(row, REAL);
            int unit = scale.settingOf(UNIT);
            int byBand = wholeSteps(bands.nextLower(table, row), unit);
            int byRule = rules.nextLower(real, unit);
            return byBand < real ? Math.max(byBand, byRule) : byRule;
        }
    }

    /** Rows of numbers up to a fixed room; every index into them is tested here. */
    private static final class Table {
        private final int room;
        private final int width;
        private final int[] cells;
        int count;

        Table(int room, int width) {
            this.room = Math.max(room, 0);
            this.width = Math.max(width, 0);
            this.cells = new int[this.room * this.width];
        }

        boolean has(int row) {
            return row >= 0 && row < count;
        }

        /** The new row's index; its cells still hold what an older row left there. */
        int addRow() {
            if (count >= room) {
                return -1;
            }
            count++;
            return count - 1;
        }

        int cell(int row, int column) {
            if (row < 0 || row >= room || column < 0 || column >= width) {
                return 0;
            }
            return cells[row * width + column];
        }

        void put(int row, int column, int value) {
            if (row >= 0 && row < room && column >= 0 && column < width) {
                cells[row * width + column] = value;
            }
        }

        void copyRow(int row, Table from, int fromRow) {
            for (int column = 0; column < width; column++) {
                put(row, column, from.cell(fromRow, column));
            }
        }

        long columnSum(int column) {
            long sum = 0;
            for (int row = 0; row < count; row++) {
                sum += cell(row, column);
            }
            return sum;
        }

        int rowsWith(int column, int value) {
            int rows = 0;
            for (int row = 0; row < count; row++) {
                if (cell(row, column) == value) {
                    rows++;
                }
            }
            return rows;
        }

        void copyFrom(Table other) {
            int used = Math.min(other.count * other.width, other.cells.length);
            if (used > 0 && used <= cells.length) {
                System.arraycopy(other.cells, 0, cells, 0, used);
            }
            count = other.count;
        }
    }

    private static final class Scale {
        private final int[] settings = {0, 0, 10, 30000, 10, 5, 5000, 100};
        int load;
        int time;
        int zero;
        int tare;
        private int offset;
        private int tracked;
        /** How many readings there are since the latest load, counted up to 3. */
        private int readings;
        private int latest;
        private int second;
        private int third;

        int settingOf(int setting) {
            return setting >= 0 && setting < settings.length ? settings[setting] : 0;
        }

        void putSetting(int setting, int value) {
            if (isIndex(setting, settings)) {
                settings[setting] = value;
            }
        }

        void putLoad(int newLoad) {
            load = newLoad;
            readings = 0;
        }

        int rawReading() {
            return Math.floorDiv(load * (1000 + settingOf(SPAN_ERROR)), 1000) + offset;
        }

        private int aboveZero() {
            return rawReading() - zero;
        }

        int grossWeight() {
            int step = settingOf(STEP);
            if (step < 1) {
                return 0;
            }
            return Math.floorDiv(2 * (rawReading() - zero) + step, 2 * step) * step;
        }

        int netWeight() {
            return grossWeight() - tare;
        }

        boolean isSteady() {
            int greatest = Math.max(latest, Math.max(second, third));
            int smallest = Math.min(latest, Math.min(second, third));
            return readings >= 3 && greatest - smallest <= settingOf(STEADY_BAND);
        }

        boolean isOver() {
            return aboveZero() > settingOf(CAPACITY);
        }

        boolean isNearZero() {
            return Math.abs(aboveZero()) <= settingOf(CAPACITY) / 20;
        }

        void passTick() {
            time++;
            offset += settingOf(DRIFT);
            putDown(rawReading());
            track();
        }

        private void putDown(int reading) {
            third = second;
            second = latest;
            latest = reading;
            readings = Math.min(readings + 1, 3);
        }

        private void track() {
            tracked = Math.abs(aboveZero()) <= settingOf(TRACKING_BAND) ? tracked + 1 : 0;
            if (tracked == 3) {
                zero = rawReading();
                tracked = 0;
            }
        }

        int number(int what) {
            switch (what) {
                case 0:
                    return time;
                case 1:
                    return rawReading();
                case 2:
                    return grossWeight();
                case 3:
                    return netWeight();
                case 4:
                    return zero;
                case 5:
                    return tare;
                case 6:
                    return offset;
                case 7:
                    return isSteady() ? 1 : 0;
                case 8:
                    return isOver() ? 1 : 0;
                case 9:
                    return tracked;
                default:
                    return load;
            }
        }

        void copyFrom(Scale other) {
            for (int i = 0; i < settings.length; i++) {
                settings[i] = other.settingOf(i);
            }
            load = other.load;
            time = other.time;
            zero = other.zero;
            tare = other.tare;
            offset = other.offset;
            tracked = other.tracked;
            readings = other.readings;
            latest = other.latest;
            second = other.second;
            third = other.third;
        }
    }

    /** The bands of prices and the extra prices, by zones. */
    private static final class Bands {
        private final int[] bandCounts = new int[ZONES];
        private final int[] limits = new int[ZONES * BANDS_OF_ZONE];
        private final int[] prices = new int[ZONES * BANDS_OF_ZONE];
        private final int[] extras = {100, 100, 100, 100};

        int bandsOf(int zone) {
            return isIndex(zone, bandCounts) ? bandCounts[zone] : 0;
        }

        boolean hasBand(int zone, int index) {
            if (zone < 0 || zone >= bandCounts.length) {
                return false;
            }
            return index >= 0 && index < bandCounts[zone];
        }

        int limitOf(int zone, int index) {
            int slot = zone * BANDS_OF_ZONE + index;
            return hasBand(zone, index) && isIndex(slot, limits) ? limits[slot] : 0;
        }

        int priceOf(int zone, int index) {
            int slot = zone * BANDS_OF_ZONE + index;
            return hasBand(zone, index) && isIndex(slot, prices) ? prices[slot] : 0;
        }

        void putBand(int zone, int index, int limit, int price) {
            int slot = zone * BANDS_OF_ZONE + index;
            if (hasBand(zone, index) && isIndex(slot, limits) && isIndex(slot, prices)) {
                limits[slot] = limit;
                prices[slot] = price;
            }
        }

        /** The index of the first band whose limit is at least this weight; behind all, if none. */
        int bandFor(int zone, int weight) {
            int bands = bandsOf(zone);
            for (int i = 0; i < bands; i++) {
                if (limitOf(zone, i) >= weight) {
                    return i;
                }
            }
            return bands;
        }

        /** Makes room for a band at this index; the caller has seen that a band more can stand. */
        void openBand(int zone, int index) {
            if (isIndex(zone, bandCounts)) {
                bandCounts[zone]++;
            }
            for (int i = bandsOf(zone) - 1; i > index; i--) {
                putBand(zone, i, limitOf(zone, i - 1), priceOf(zone, i - 1));
            }
        }

        void closeBand(int zone, int index) {
            for (int i = index + 1; i < bandsOf(zone); i++) {
                putBand(zone, i - 1, limitOf(zone, i), priceOf(zone, i));
            }
            if (isIndex(zone, bandCounts)) {
                bandCounts[zone]--;
            }
        }

        int extraOf(int zone) {
            return isIndex(zone, extras) ? extras[zone] : 0;
        }

        void putExtra(int zone, int extra) {
            if (isIndex(zone, extras)) {
                extras[zone] = extra;
            }
        }

        /** The base of a row whose billed weight is known, put down among its reasons. */
        int base(Table table, int row) {
            int zone = table.cell(row, ZONE);
            int billed = table.cell(row, BILLED);
            int index = bandFor(zone, billed);
            if (hasBand(zone, index)) {
                addReason(table, row, BAND_REASON + index);
                return priceOf(zone, index);
            }
            addReason(table, row, EXTRA_REASON);
            return priceOf(zone, index - 1) + begunAbove(zone, billed) * extraOf(zone);
        }

        /** The greatest billed weight below the row's at which its base can be another one. */
        int nextLower(Table table, int row) {
            int zone = table.cell(row, ZONE);
            int billed = table.cell(row, BILLED);
            int index = bandFor(zone, billed);
            int limitBelow = limitOf(zone, index - 1);
            if (hasBand(zone, index)) {
                return limitBelow;
            }
            return limitBelow + (begunAbove(zone, billed) - 1) * EXTRA_WEIGHT;
        }

        private int begunAbove(int zone, int billed) {
            return dividedUp(billed - limitOf(zone, bandsOf(zone) - 1), EXTRA_WEIGHT);
        }

        void copyFrom(Bands other) {
            for (int zone = 0; zone < ZONES; zone++) {
                if (isIndex(zone, bandCounts)) {
                    bandCounts[zone] = other.bandsOf(zone);
                }
                for (int i = 0; i < BANDS_OF_ZONE; i++) {
                    putBand(zone, i, other.limitOf(zone, i), other.priceOf(zone, i));
                }
                putExtra(zone, other.extraOf(zone));
            }
        }
    }

    /** Reads the text of a rule, character by character, into tokens. */
    private static final class RuleReader {
        private static final int AT_TERM = 0;
        private static final int AT_RELATION = 1;
        private static final int AT_NUMBER = 2;
        private static final int AT_LINK = 3;
        private static final int AT_CHANGE = 4;
        private static final int AT_AMOUNT = 5;

        private final int[] tokens = new int[TEXT_ROOM];
        int count;
        int change;
        /** The number that was read last; of a complete text the one of its change. */
        int number;
        private int digits;
        private int place;
        private int depth;
        private int letter;
        private int relation;

        void start() {
            count = 0;
            place = AT_TERM;
            depth = 0;
        }

        boolean isComplete() {
            return place == AT_AMOUNT && digits > 0;
        }

        int tokenAt(int index) {
            return isIndex(index, tokens) ? tokens[index] : 0;
        }

        /** Whether this character can stand next; behind one that cannot, no other is read. */
        boolean accepts(int c) {
            switch (place) {
                case AT_TERM:
                    return acceptsTerm(c);
                case AT_RELATION:
                    return acceptsRelation(c);
                case AT_NUMBER:
                    return acceptsDigit(c) || acceptsLinkBehindNumber(c);
                case AT_LINK:
                    return acceptsLink(c);
                case AT_CHANGE:
                    return acceptsChange(c);
                default:
                    return acceptsDigit(c);
            }
        }

        private boolean acceptsTerm(int c) {
            if (c == '~' || c == '(') {
                depth += c == '(' ? 1 : 0;
                addToken(-c);
                return true;
            }
            letter = LETTERS.indexOf((char) c);
            place = AT_RELATION;
            return letter >= 0;
        }

        private boolean acceptsRelation(int c) {
            relation = RELATIONS.indexOf((char) c);
            startNumber(AT_NUMBER);
            return relation >= 0;
        }

        private boolean acceptsDigit(int c) {
            if (c < '0' || c > '9' || digits >= MOST_DIGITS) {
                return false;
            }
            number = number * 10 + c - '0';
            digits++;
            return true;
        }

        private boolean acceptsLinkBehindNumber(int c) {
            if (digits == 0) {
                return false;
            }
            addToken((letter * RELATION_COUNT + relation) * NUMBERS + number);
            return acceptsLink(c);
        }

        private boolean acceptsLink(int c) {
            if (c == '?' && depth == 0) {
                place = AT_CHANGE;
                return true;
            }
            if (c == ')' && depth > 0) {
                depth--;
                place = AT_LINK;
            } else if (c == '&' || c == '|') {
                place = AT_TERM;
            } else {
                return false;
            }
            addToken(-c);
            return true;
        }

        private boolean acceptsChange(int c) {
            change = c;
            startNumber(AT_AMOUNT);
            return c == '+' || c == '-' || c == '*';
        }

        private void startNumber(int newPlace) {
            place = newPlace;
            number = 0;
            digits = 0;
        }

        private void addToken(int token) {
            if (isIndex(count, tokens)) {
                tokens[count] = token;
                count++;
            }
        }
    }

    /** The rules, as the tokens that their texts were read into. */
    private static final class Rules {
        private final Table rows = new Table(RULE_ROOM, RULE_WIDTH);

        int count() {
            return rows.count;
        }

        void addRule(RuleReader read) {
            int rule = rows.addRow();
            rows.put(rule, TOKENS, read.count);
            rows.put(rule, CHANGE, read.change);
            rows.put(rule, AMOUNT, read.number);
            for (int i = 0; i < read.count; i++) {
                rows.put(rule, FIRST_TOKEN + i, read.tokenAt(i));
            }
        }

        void dropRule() {
            rows.count = Math.max(rows.count - 1, 0);
        }

        void copyFrom(Rules other) {
            rows.copyFrom(other.rows);
        }

        /** The charge of a row whose base is known; each rule that holds becomes a reason. */
        int charge(Table table, int row) {
            int charge = table.cell(row, BASE);
            for (int rule = 0; rule < rows.count; rule++) {
                if (holds(rule, table, row)) {
                    charge = changed(rule, charge);
                    addReason(table, row, RULE_REASON + rule);
                }
            }
            return charge;
        }

        private int changed(int rule, int charge) {
            int change = rows.cell(rule, CHANGE);
            long amount = rows.cell(rule, AMOUNT);
            long result = charge * amount / 1000;
            if (change != '*') {
                result = change == '+' ? charge + amount : charge - amount;
            }
            return (int) Math.max(0, Math.min(result, HIGHEST_CHARGE));
        }

        /**
         * Inside parentheses the values outside wait as bits, the innermost one lowest; a text has
         * too few characters for more parentheses than a long has bits.
         */
        private boolean holds(int rule, Table table, int row) {
            boolean any = false;
            boolean all = true;
            boolean not = false;
            long outerAny = 0;
            long outerAll = 0;
            long outerNot = 0;
            int count = rows.cell(rule, TOKENS);
            for (int i = 0; i < count; i++) {
                int token = rows.cell(rule, FIRST_TOKEN + i);
                if (token == -'~') {
                    not = !not;
                } else if (token == -'(') {
                    outerAny = pushed(outerAny, any);
                    outerAll = pushed(outerAll, all);
                    outerNot = pushed(outerNot, not);
                    any = false;
                    all = true;
                    not = false;
                } else if (token == -'|') {
                    any = any || all;
                    all = true;
                } else if (token == -')') {
                    boolean inner = any || all;
                    any = isSet(outerAny);
                    all = isSet(outerAll) && inner != isSet(outerNot);
                    not = false;
                    outerAny >>= 1;
                    outerAll >>= 1;
                    outerNot >>= 1;
                } else if (token >= 0) {
                    all = all && compares(token, table, row) != not;
                    not = false;
                }
            }
            return any || all;
        }

        private static long pushed(long bits, boolean value) {
            return bits << 1 | (value ? 1 : 0);
        }

        private static boolean isSet(long bits) {
            return (bits & 1) != 0;
        }

        private static boolean compares(int token, Table table, int row) {
            int number = token % NUMBERS;
            int fact = table.cell(row, columnOf(token));
            switch (token / NUMBERS % RELATION_COUNT) {
                case 0:
                    return fact < number;
                case 1:
                    return fact == number;
                default:
                    return fact > number;
            }
        }

        /** The column that a comparison reads; NONE for a token that is no comparison. */
        private static int columnOf(int token) {
            int letter = token / NUMBERS / RELATION_COUNT;
            if (token < 0 || letter >= LETTER_COLUMNS.length) {
                return NONE;
            }
            return LETTER_COLUMNS[letter];
        }

        /** The greatest real weight below this one at which a comparison can answer otherwise. */
        int nextLower(int real, int unit) {
            int next = 0;
            for (int rule = 0; rule < rows.count; rule++) {
                int count = rows.cell(rule, TOKENS);
                for (int i = 0; i < count; i++) {
                    int token = rows.cell(rule, FIRST_TOKEN + i);
                    next = Math.max(next, turnBelow(token, real, unit));
                }
            }
            return next;
        }

        /** A comparison with n can turn from n + 1 to n, and from n to n - 1. */
        private static int turnBelow(int token, int real, int unit) {
            int column = columnOf(token);
            if (column != BILLED && column != REAL) {
                return 0;
            }
            int step = column == BILLED ? unit : 1;
            int number = token % NUMBERS;
            int turn = wholeSteps(number, step);
            if (turn >= real) {
                turn = wholeSteps(number - 1, step);
            }
            return turn < real ? turn : 0;
        }
    }
}
