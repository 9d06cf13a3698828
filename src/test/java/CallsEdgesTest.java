import java.io.IOException;

/** For each sentence of the document's promises that names an edge: both of its sides. */
public final class CallsEdgesTest {
    private static final int BAD = Desks.BAD;
    private static final int STATE = Desks.STATE;
    private static final int FULL = Desks.FULL;
    private static final int NONE = Desks.NONE;
    private static final int LOW = Desks.LOW;
    private static final int HIGH = Desks.HIGH;
    private static final int[] LOWEST = {-20, -20, 1, 1000, 0, 0, 1000, 1};
    private static final int[] HIGHEST = {20, 20, 100, 70000, 100, 200, 9999, 1000};
    private static final int[] INITIAL = {0, 0, 10, 30000, 10, 5, 5000, 100};

    public static void main(String[] args) throws IOException {
        newObject();
        set();
        setting();
        load();
        tick();
        zero();
        tare();
        scale();
        band();
        unband();
        bandAt();
        setExtra();
        type();
        clear();
        rule();
        unrule();
        rules();
        take();
        takeState();
        quote();
        parcel();
        why();
        parcels();
        density();
        dispute();
        disputeErrors();
        settle();
        note();
        notes();
        sum();
        lighter();
        lighterLeast();
        shorter();
        shorterLeast();
        cheapest();
        undo();
        fingerprint();
        Desks.end("Promise \\d+: ");
    }

    // ---- the scale

    private static void newObject() {
        Desks.section("Promise 1: A new object");
        Desks.says("`ParcelDesk()`: Creates a desk with an empty scale, without bands, rules and "
            + "parcels.");
        ParcelDesk d = new ParcelDesk();
        for (int what = 0; what <= 10; what++) {
            Desks.due("scale(" + what + ")", d.scale(what), 0);
        }
        for (int zone = 0; zone < 4; zone++) {
            Desks.due("bandAt(" + zone + ", 0, 0)", d.bandAt(zone, 0, 0), BAD);
            Desks.due("quote() in zone " + zone, d.quote(1, 1, 1, 1, zone), STATE);
        }
        Desks.due("rules()", d.rules(), 0);
        Desks.due("parcels()", d.parcels(), 0);
        Desks.due("notes()", d.notes(), 0);
        Desks.due("parcel(0, 0)", d.parcel(0, 0), BAD);
        Desks.due("note(0, 0)", d.note(0, 0), BAD);
        Desks.due("clear()", d.clear(), 0);
        Desks.due("undo()", d.undo(), NONE);
        long print = d.fingerprint();
        Desks.make(Desks::full);
        Desks.due("other desks are other desks", d.fingerprint(), print);
        Desks.due("other desks are other desks", new ParcelDesk().fingerprint(), print);
    }

    private static void set() {
        Desks.section("Promise 2: set");
        Desks.says("`int set(int setting, int value)`: Sets a setting.");
        for (int i = 0; i < 8; i++) {
            for (int value : new int[] {LOWEST[i], LOWEST[i] + 1, HIGHEST[i] - 1, HIGHEST[i]}) {
                ParcelDesk d = new ParcelDesk();
                d.set(i, value);
                for (int k = 0; k < 8; k++) {
                    Desks.due("setting " + k, d.setting(k), k == i ? value : INITIAL[k]);
                }
            }
        }
        Desks.says("This is an act.");
        for (int i = 0; i < 8; i++) {
            int setting = i;
            Desks.actsAnywhere("set(" + i + ", ..)", d -> d.set(setting, HIGHEST[setting]));
            Desks.actsAnywhere("set(" + i + ", ..) as it was",
                d -> d.set(setting, d.setting(setting)));
        }
        Desks.says("- `setting`: 0 to 7");
        Desks.range("setting", 0, 7, Desks::busy, (d, setting) -> {
            boolean is = setting >= 0 && setting < 8;
            return d.set(setting, is ? INITIAL[setting] : 10);
        });
        Desks.says("- `value`: the value");
        for (int i = 0; i < 8; i++) {
            int setting = i;
            Desks.range("value", LOWEST[i], HIGHEST[i], Desks::full, (d, v) -> d.set(setting, v));
        }
        Desks.says("Returns the previous value; BAD if an argument is not in its range.");
        for (int i = 0; i < 8; i++) {
            ParcelDesk d = new ParcelDesk();
            Desks.due("the initial value", d.set(i, HIGHEST[i]), INITIAL[i]);
            Desks.due("not in its range", d.set(i, HIGHEST[i] + 1), BAD);
            Desks.due("the value before, not the refused one", d.set(i, LOWEST[i]), HIGHEST[i]);
            Desks.due("not in its range", d.set(i, LOWEST[i] - 1), BAD);
            Desks.due("the value before, not the refused one", d.set(i, LOWEST[i]), LOWEST[i]);
        }
        Desks.leaves("neither in its range", BAD, Desks::busy, d -> d.set(8, HIGH));
        Desks.leaves("neither in its range", BAD, Desks::busy, d -> d.set(-1, LOW));
    }

    private static void setting() {
        Desks.section("Promise 3: setting");
        Desks.says("`int setting(int setting)`: Returns a setting.");
        for (int i = 0; i < 8; i++) {
            int setting = i;
            Desks.leaves("setting(" + i + ")", INITIAL[i], Desks::fresh, d -> d.setting(setting));
        }
        Desks.says("- `setting`: 0 to 7");
        Desks.range("setting", 0, 7, Desks::busy, (d, setting) -> d.setting(setting));
        Desks.says("Returns the value; BAD if setting is not in its range.");
        ParcelDesk d = new ParcelDesk();
        for (int i = 0; i < 8; i++) {
            d.set(i, LOWEST[i]);
            Desks.due("the lowest value", d.setting(i), LOWEST[i]);
            d.set(i, HIGHEST[i]);
            Desks.due("the highest value", d.setting(i), HIGHEST[i]);
        }
        Desks.due("setting(-1)", d.setting(-1), BAD);
        Desks.due("setting(8)", d.setting(8), BAD);
    }

    private static void load() {
        Desks.section("Promise 4: load");
        Desks.says("`int load(int load)`: Puts a load on the scale in place of what lies on it (the "
            + "readings of earlier ticks do not count for being steady any more, also with the same "
            + "load again; the tracking count stays).");
        for (int load : new int[] {0, 5, 6}) {
            ParcelDesk d = new ParcelDesk();
            d.load(5);
            d.tick(5);
            Desks.due("steady, with a count", d.scale(7) * 10 + d.scale(9), 12);
            d.load(load);
            Desks.due("in place of what lies on it", d.scale(1), load);
            Desks.due("not steady", d.scale(7), 0);
            Desks.due("the count stays", d.scale(9), 2);
            d.tick(2);
            Desks.due("two ticks", d.scale(7), 0);
            d.tick(1);
            Desks.due("three ticks", d.scale(7), 1);
        }
        Desks.says("This is an act.");
        Desks.actsAnywhere("load(0)", d -> d.load(0));
        Desks.actsAnywhere("load(100000)", d -> d.load(100000));
        Desks.actsAnywhere("load() as it was", d -> d.load(d.scale(10)));
        Desks.says("- `load`: 0 to 100000");
        Desks.range("load", 0, 100000, Desks::fresh, (d, load) -> d.load(load));
        Desks.range("load", 0, 100000, Desks::ready, (d, load) -> d.load(load));
        Desks.says("Returns the previous load; BAD if load is not in its range.");
        ParcelDesk d = new ParcelDesk();
        Desks.due("the empty scale", d.load(100000), 0);
        Desks.due("BAD", d.load(100001), BAD);
        Desks.due("the load before, not the refused one", d.load(0), 100000);
        Desks.due("BAD", d.load(-1), BAD);
        Desks.due("the load before, not the refused one", d.load(9), 0);
    }

    private static void tick() {
        Desks.section("Promise 5: tick");
        Desks.says("`int tick(int ticks)`: Lets ticks pass.");
        for (int ticks : new int[] {1, 2, 99, 100}) {
            ParcelDesk d = new ParcelDesk();
            d.tick(ticks);
            Desks.due("the time", d.scale(0), ticks);
            Desks.due("the count", d.scale(9), ticks % 3);
        }
        Desks.says("This is one act.");
        Desks.actsAnywhere("tick(1)", d -> d.tick(1));
        Desks.actsAnywhere("tick(4)", d -> d.tick(4));
        Desks.actsAnywhere("tick(100)", d -> d.tick(100));
        Desks.says("- `ticks`: 1 to 100");
        Desks.range("ticks", 1, 100, Desks::fresh, (d, ticks) -> d.tick(ticks));
        Desks.range("ticks", 1, 100, Desks::ready, (d, ticks) -> d.tick(ticks));
        Desks.says("Returns the raw reading then; BAD if ticks is not in its range; STATE if the time "
            + "would be greater than 100000.");
        ParcelDesk d = new ParcelDesk();
        d.set(0, -20);
        d.load(1999);
        Desks.due("the reading behind the tick", d.tick(1), 1979);
        Desks.due("the reading behind the last one", d.tick(99), -1);
        d.set(1, 1);
        Desks.due("with the span error", d.tick(1), 2000 - 2020);
        // No 512 calls get so far, but the sentence stands there.
        Desks.Setup late = l -> {
            for (int i = 0; i < 999; i++) {
                l.tick(100);
            }
            l.tick(98);
        };
        Desks.due("up to 100000", Desks.make(late).tick(2), 0);
        Desks.leaves("beyond 100000", STATE, late, l -> l.tick(3));
        Desks.leaves("far beyond 100000", STATE, late, l -> l.tick(100));
        Desks.leaves("BAD ahead of STATE", BAD, late, l -> l.tick(101));
        Desks.leaves("BAD ahead of STATE", BAD, late, l -> l.tick(HIGH));
        ParcelDesk last = Desks.make(late);
        last.tick(2);
        Desks.due("the time", last.scale(0), 100000);
        Desks.due("not one more", last.tick(1), STATE);
        Desks.due("BAD ahead of STATE", last.tick(0), BAD);
    }

    /** A capacity, a load far from the zero by this, below it if less than 0: steady. */
    private static Desks.Setup farFromZero(int capacity, int grams) {
        return d -> {
            d.set(3, capacity);
            d.set(5, 0);
            int start = Math.min(capacity / 20, 50);
            Desks.weigh(d, start);
            d.zero();
            if (grams < -start) {
                d.set(0, -1);
                for (int left = -grams - start; left > 0; left -= 100) {
                    d.tick(Math.min(left, 100));
                }
                d.set(0, 0);
                Desks.weigh(d, 0);
            } else {
                Desks.weigh(d, start + grams);
            }
        };
    }

    private static void zero() {
        Desks.section("Promise 6: zero");
        Desks.says("`int zero()`: Makes the present raw reading the zero; the tare becomes 0.");
        ParcelDesk d = new ParcelDesk();
        d.set(5, 0);
        Desks.weigh(d, 1500);
        d.tare();
        d.load(1501);
        d.tick(3);
        Desks.due("more than a twentieth", d.zero(), STATE);
        Desks.due("the tare stays", d.scale(5), 1500);
        d.set(3, 70000);
        Desks.due("not more", d.zero(), 0);
        Desks.due("the raw reading, not the gross weight", d.scale(4), 1501);
        Desks.due("no tare", d.scale(5), 0);
        Desks.due("the net weight", d.scale(3), 0);
        Desks.says("This is an act.");
        Desks.acts("zero()", 0, l -> l.tick(3), l -> l.zero());
        Desks.acts("zero()", 50, farFromZero(1000, 20), l -> l.zero());
        Desks.acts("zero() again", 70, l -> {
            farFromZero(1000, 20).on(l);
            l.zero();
        }, l -> l.zero());
        Desks.says("Returns the previous zero; STATE if the scale is not steady, or the raw reading "
            + "differs from the zero, as it is until then, by more than a twentieth of the capacity "
            + "(rounded down).");
        int[] capacities = {1000, 1019, 1020, 30000, 70000};
        int[] twentieths = {50, 50, 51, 1500, 3500};
        for (int i = 0; i < capacities.length; i++) {
            int far = twentieths[i];
            for (int grams : new int[] {far, -far, 0, 1, -1}) {
                ParcelDesk near = Desks.make(farFromZero(capacities[i], grams));
                int previous = near.scale(4);
                Desks.due("so far from the zero", near.scale(1) - previous, grams);
                Desks.due("zero() by " + grams + " of " + capacities[i], near.zero(), previous);
                Desks.due("the zero then", near.scale(4), previous + grams);
            }
            for (int grams : new int[] {far + 1, -far - 1, 5 * far}) {
                Desks.leaves("zero() by " + grams + " of " + capacities[i], STATE,
                    farFromZero(capacities[i], grams), l -> l.zero());
            }
        }
        Desks.leaves("no ticks", STATE, Desks::fresh, l -> l.zero());
        Desks.leaves("two ticks", STATE, l -> l.tick(2), l -> l.zero());
        Desks.leaves("ticks of another load", STATE, l -> {
            l.tick(3);
            l.load(0);
        }, l -> l.zero());
        drifting(10, l -> l.zero());
    }

    /** The call is refused where the readings differ by more than the steady band. */
    private static void drifting(int band, Desks.Call call) {
        Desks.Setup within = d -> {
            Desks.fine(d);
            d.load(500);
            d.set(4, band);
            d.set(0, band / 2);
            d.tick(3);
        };
        Desks.due("readings that differ by the band", call.on(Desks.make(within)) == STATE ? 1 : 0, 0);
        Desks.leaves("readings that differ by more", STATE, d -> {
            within.on(d);
            d.set(0, band / 2 + 1);
            d.tick(1);
        }, call);
    }

    private static void tare() {
        Desks.section("Promise 7: tare");
        Desks.says("`int tare()`: Makes the present gross weight the tare.");
        ParcelDesk d = new ParcelDesk();
        d.set(5, 0);
        Desks.weigh(d, 505);
        d.tare();
        Desks.due("the gross weight, not the raw reading", d.scale(5), 510);
        Desks.due("the net weight", d.scale(3), 0);
        Desks.weigh(d, 700);
        d.tare();
        Desks.due("the gross weight, not the net weight", d.scale(5), 700);
        Desks.says("This is an act.");
        Desks.acts("tare()", 700, Desks::few, l -> l.tare());
        Desks.acts("tare()", 900, Desks::one, l -> l.tare());
        Desks.acts("tare() of nothing", 0, l -> l.tick(3), l -> l.tare());
        Desks.says("Returns the tare; STATE if the scale is not steady, is over, or the gross weight is "
            + "less than 0.");
        Desks.leaves("no ticks", STATE, Desks::fresh, l -> l.tare());
        Desks.leaves("two ticks", STATE, l -> l.tick(2), l -> l.tare());
        drifting(10, l -> l.tare());
        Desks.due("at the capacity", Desks.make(farFromZero(1000, 1000)).tare(), 1000);
        Desks.leaves("above the capacity", STATE, farFromZero(1000, 1001), l -> l.tare());
        Desks.due("at the capacity", Desks.make(farFromZero(70000, 70000)).tare(), 70000);
        Desks.leaves("above the capacity", STATE, farFromZero(70000, 70001), l -> l.tare());
        Desks.due("a gross weight of 0", Desks.make(farFromZero(1000, -5)).tare(), 0);
        Desks.leaves("a gross weight of -10", STATE, farFromZero(1000, -6), l -> l.tare());
        Desks.leaves("a gross weight of -1", STATE, l -> {
            farFromZero(1000, -1).on(l);
            l.set(2, 1);
        }, l -> l.tare());
        Desks.due("a gross weight of 1", Desks.make(l -> {
            farFromZero(1000, 1).on(l);
            l.set(2, 1);
        }).tare(), 1);
        ParcelDesk less = Desks.make(farFromZero(1000, 700));
        less.tare();
        Desks.weigh(less, 650);
        Desks.due("a net weight below 0", less.tare(), 600);
    }

    private static void scale() {
        Desks.section("Promise 8: scale");
        Desks.says("`int scale(int what)`: Returns a number of the scale.");
        ParcelDesk d = Desks.make(Desks::busy);
        numbers(d, 11, 102, 62, -1138, 40, 1200, 2, 0, 0, 2, 100);
        d.set(0, 5);
        d.tick(3);
        d.load(3000);
        d.set(0, 0);
        d.tick(3);
        numbers(d, 17, 3017, 2910, 1710, 107, 1200, 17, 1, 0, 0, 3000);
        d.load(20091);
        numbers(d, 17, 20108, 20001, 18801, 107, 1200, 17, 0, 1, 0, 20091);
        Desks.says("- `what`: 0 the time, 1 the raw reading, 2 the gross weight, 3 the net weight, 4 "
            + "the zero, 5 the tare, 6 the offset, 7 1 if it is steady, otherwise 0, 8 1 if it is "
            + "over, otherwise 0, 9 the tracking count, 10 the load");
        for (int what = 0; what <= 10; what++) {
            int asked = what;
            for (Desks.Setup desk : new Desks.Setup[] {Desks::ready, Desks::full}) {
                Desks.leaves("scale(" + what + ")", Desks.make(desk).scale(what), desk,
                    l -> l.scale(asked));
            }
        }
        ParcelDesk steady = Desks.make(l -> l.tick(2));
        Desks.due("not steady", steady.scale(7), 0);
        steady.tick(1);
        Desks.due("steady", steady.scale(7), 1);
        steady.load(30000);
        Desks.due("not over", steady.scale(8), 0);
        steady.load(30001);
        Desks.due("over", steady.scale(8), 1);
        Desks.says("Returns that number; BAD if what is not in its range.");
        Desks.range("what", 0, 10, Desks::busy, (l, what) -> l.scale(what));
    }

    private static void numbers(ParcelDesk d, int... want) {
        for (int what = 0; what < want.length; what++) {
            Desks.due("scale(" + what + ")", d.scale(what), want[what]);
        }
    }

    // ---- prices

    private static void band() {
        Desks.section("Promise 9: band");
        Desks.says("`int band(int zone, int limit, int price)`: Adds a band, or changes the price of "
            + "the band with this limit.");
        ParcelDesk d = Desks.make(Desks::busy);
        d.band(0, 1000, 1);
        Desks.due("its price", d.bandAt(0, 0, 1), 1);
        Desks.due("no band more", d.bandAt(0, 2, 0), BAD);
        d.band(0, 1001, 2);
        Desks.due("a band more", d.bandAt(0, 1, 0), 1001);
        d.band(0, 999, 3);
        Desks.due("a band more", d.bandAt(0, 0, 0), 999);
        int[] limits = {999, 1000, 1001, 5000};
        int[] prices = {3, 1, 2, 900};
        for (int i = 0; i < 4; i++) {
            Desks.due("limit " + i, d.bandAt(0, i, 0), limits[i]);
            Desks.due("price " + i, d.bandAt(0, i, 1), prices[i]);
        }
        Desks.due("the other zones", d.bandAt(1, 2, 0), BAD);
        Desks.says("This is an act.");
        Desks.acts("the first band", 0, Desks::fresh, l -> l.band(3, 7, 7));
        Desks.acts("a price", 1, Desks::busy, l -> l.band(1, 900, 7));
        Desks.acts("a price as it was", 1, Desks::busy, l -> l.band(1, 900, 260));
        Desks.acts("a sixth band", 5, l -> {
            Desks.full(l);
            l.unband(3, 0);
        }, l -> l.band(3, 99999, 7));
        Desks.says("- `zone`: 0 to 3");
        Desks.range("zone", 0, 3, Desks::busy, (l, zone) -> l.band(zone, 7, 7));
        Desks.range("zone", 0, 3, Desks::full, (l, zone) -> l.band(zone, 400, 7));
        Desks.says("- `limit`: 1 to 100000");
        Desks.range("limit", 1, 100000, Desks::fresh, (l, limit) -> l.band(0, limit, 7));
        Desks.range("limit", 1, 100000, Desks::busy, (l, limit) -> l.band(2, limit, 7));
        Desks.says("- `price`: 0 to 100000");
        Desks.range("price", 0, 100000, Desks::fresh, (l, price) -> l.band(0, 7, price));
        Desks.range("price", 0, 100000, Desks::full, (l, price) -> l.band(0, 400, price));
        Desks.says("Returns its index by its limit among the bands of the zone; BAD if an argument is "
            + "not in its range; FULL if it would be a seventh band.");
        ParcelDesk order = new ParcelDesk();
        int[] added = {50, 100000, 1, 51, 49, 99999};
        int[] index = {0, 1, 0, 2, 1, 4};
        for (int i = 0; i < 6; i++) {
            Desks.due("band " + added[i], order.band(3, added[i], i), index[i]);
        }
        for (int limit : new int[] {2, 48, 52, 99998}) {
            Desks.due("a seventh one", order.band(3, limit, 9), FULL);
        }
        int[] sorted = {1, 49, 50, 51, 99999, 100000};
        for (int i = 0; i < 6; i++) {
            Desks.due("the price of one of six", order.band(3, sorted[i], 9), i);
        }
        Desks.leaves("BAD ahead of FULL", BAD, Desks::full, l -> l.band(0, 0, 1));
        Desks.leaves("BAD ahead of FULL", BAD, Desks::full, l -> l.band(0, 7, 100001));
        Desks.leaves("BAD with a limit that there is", BAD, Desks::full, l -> l.band(0, 400, -1));
    }

    private static void unband() {
        Desks.section("Promise 10: unband");
        Desks.says("`int unband(int zone, int index)`: Removes a band.");
        for (int index = 0; index < 6; index++) {
            ParcelDesk d = Desks.make(Desks::full);
            d.unband(2, index);
            for (int i = 0; i < 5; i++) {
                int of = i < index ? i + 1 : i + 2;
                Desks.due("limit " + i, d.bandAt(2, i, 0), 400 * of);
                Desks.due("price " + i, d.bandAt(2, i, 1), 10 * of + 2);
            }
            Desks.due("no sixth one", d.bandAt(2, 5, 0), BAD);
            Desks.due("the next zone", d.bandAt(3, 5, 0), 2400);
            Desks.due("the next zone", d.bandAt(3, 0, 0), 400);
        }
        Desks.says("This is an act.");
        Desks.acts("the first of six", 5, Desks::full, l -> l.unband(1, 0));
        Desks.acts("the last of six", 5, Desks::full, l -> l.unband(1, 5));
        Desks.acts("the only one", 0, Desks::few, l -> l.unband(1, 0));
        Desks.says("- `zone`: 0 to 3");
        Desks.range("zone", 0, 3, Desks::full, (l, zone) -> l.unband(zone, 0));
        Desks.says("- `index`: its index");
        for (int zone = 0; zone < 4; zone++) {
            int of = zone;
            Desks.range("index", 0, 5, Desks::full, (l, index) -> l.unband(of, index));
        }
        Desks.range("index", 0, 1, Desks::busy, (l, index) -> l.unband(0, index));
        Desks.says("Returns the number of bands of the zone then; BAD if there is no such zone or "
            + "band.");
        ParcelDesk d = Desks.make(Desks::full);
        for (int left = 5; left >= 0; left--) {
            Desks.due("bands left", d.unband(0, left / 2), left);
        }
        Desks.due("none", d.unband(0, 0), BAD);
        Desks.leaves("a zone without bands", BAD, Desks::busy, l -> l.unband(3, 0));
        Desks.leaves("an index of the next zone", BAD, Desks::full, l -> l.unband(0, 6));
        Desks.leaves("an index of the zone before", BAD, Desks::full, l -> l.unband(1, -1));
        Desks.leaves("by wrapping around", BAD, Desks::full, l -> l.unband(715827883, 0));
        Desks.leaves("by wrapping around", BAD, Desks::full, l -> l.unband(LOW, 0));
    }

    private static void bandAt() {
        Desks.section("Promise 11: bandAt");
        Desks.says("`int bandAt(int zone, int index, int what)`: Returns a number of a band.");
        Desks.leaves("a limit", 5000, Desks::busy, l -> l.bandAt(0, 1, 0));
        Desks.leaves("a price", 900, Desks::busy, l -> l.bandAt(0, 1, 1));
        Desks.says("- `zone`: 0 to 3");
        Desks.range("zone", 0, 3, Desks::full, (l, zone) -> l.bandAt(zone, 0, 0));
        Desks.says("- `index`: its index");
        Desks.range("index", 0, 5, Desks::full, (l, index) -> l.bandAt(3, index, 1));
        Desks.range("index", 0, 1, Desks::busy, (l, index) -> l.bandAt(1, index, 0));
        Desks.range("index", 0, 0, Desks::busy, (l, index) -> l.bandAt(2, index, 0));
        Desks.says("- `what`: 0 its limit, 1 its price");
        ParcelDesk d = new ParcelDesk();
        d.band(0, 1, 100000);
        d.band(0, 100000, 0);
        Desks.due("the least limit", d.bandAt(0, 0, 0), 1);
        Desks.due("the greatest price", d.bandAt(0, 0, 1), 100000);
        Desks.due("the greatest limit", d.bandAt(0, 1, 0), 100000);
        Desks.due("the least price", d.bandAt(0, 1, 1), 0);
        Desks.says("Returns that number; BAD if there is no such zone or band, or what is not 0 or 1.");
        Desks.range("what", 0, 1, Desks::full, (l, what) -> l.bandAt(3, 5, what));
        Desks.leaves("a zone without bands", BAD, Desks::busy, l -> l.bandAt(3, 0, 0));
        d.unband(0, 1);
        Desks.due("a removed one", d.bandAt(0, 1, 0), BAD);
        Desks.due("by wrapping around", d.bandAt(LOW, 0, 0), BAD);
        Desks.due("by wrapping around", d.bandAt(715827883, -2, 0), BAD);
        Desks.due("nothing there", d.bandAt(-1, -1, -1), BAD);
    }

    private static void setExtra() {
        Desks.section("Promise 12: setExtra");
        Desks.says("`int setExtra(int zone, int extra)`: Sets the extra price of a zone.");
        for (int zone = 0; zone < 4; zone++) {
            ParcelDesk d = new ParcelDesk();
            for (int i = 0; i < 4; i++) {
                d.band(i, 1000, 0);
            }
            d.setExtra(zone, 7);
            for (int i = 0; i < 4; i++) {
                Desks.due("zone " + i, d.quote(1001, 1, 1, 1, i), i == zone ? 7 : 100);
            }
        }
        Desks.says("This is an act.");
        Desks.actsAnywhere("setExtra(0, 7)", l -> l.setExtra(0, 7));
        Desks.actsAnywhere("setExtra(3, 100), as it was,", l -> l.setExtra(3, 100));
        Desks.says("- `zone`: 0 to 3");
        Desks.range("zone", 0, 3, Desks::busy, (l, zone) -> l.setExtra(zone, 7));
        Desks.says("- `extra`: 0 to 10000");
        Desks.range("extra", 0, 10000, Desks::fresh, (l, extra) -> l.setExtra(3, extra));
        Desks.says("Returns the previous one; BAD if an argument is not in its range.");
        ParcelDesk d = new ParcelDesk();
        for (int zone = 0; zone < 4; zone++) {
            Desks.due("at first", d.setExtra(zone, 10000), 100);
            Desks.due("BAD", d.setExtra(zone, 10001), BAD);
            Desks.due("not the refused one", d.setExtra(zone, 0), 10000);
            Desks.due("BAD", d.setExtra(zone, -1), BAD);
            Desks.due("not the refused one", d.setExtra(zone, 9), 0);
        }
        Desks.leaves("neither in its range", BAD, Desks::busy, l -> l.setExtra(4, 10001));
    }

    private static void type() {
        Desks.section("Promise 13: type");
        Desks.says("`int type(int c)`: Appends a character to the buffer.");
        ParcelDesk d = Desks.make(Desks::fine);
        for (char c : "w=8?+7".toCharArray()) {
            d.type(c);
        }
        Desks.due("behind those that there are", d.rule(), 1);
        Desks.due("behind those that there are", d.quote(8, 1, 1, 1, 0), 1007);
        d.type('z');
        Desks.due("no act", d.undo(), 3);
        Desks.due("no act", d.rules(), 0);
        Desks.says("- `c`: its code, 32 to 126");
        Desks.range("c", 32, 126, Desks::fresh, (l, c) -> l.type(c));
        Desks.leaves("by its low bits", BAD, Desks::fresh, l -> l.type((1 << 16) + '?'));
        Desks.leaves("0", BAD, Desks::fresh, l -> l.type(0));
        Desks.says("Returns the number of characters in the buffer; BAD if c is not in its range; FULL "
            + "if there are 60 characters.");
        ParcelDesk row = new ParcelDesk();
        for (int i = 1; i < 60; i++) {
            Desks.due("characters", row.type(126), i);
            Desks.due("a refused one does not count", row.type(127), BAD);
        }
        Desks.due("the 60th", row.type(32), 60);
        Desks.due("the 61st", row.type(32), FULL);
        Desks.due("BAD ahead of FULL", row.type(31), BAD);
        Desks.leaves("FULL", FULL, Desks::full, l -> l.type(' '));
        Desks.leaves("BAD ahead of FULL", BAD, Desks::full, l -> l.type(127));
        ParcelDesk whole = Desks.make(l -> Desks.write(l, "~".repeat(54) + "w<1?+1"));
        Desks.due("one more", whole.type('0'), FULL);
        Desks.due("the text is as it was", whole.rule(), 1);
    }

    private static void clear() {
        Desks.section("Promise 14: clear");
        Desks.says("`int clear()`: Empties the buffer.");
        ParcelDesk d = Desks.make(Desks::fine);
        Desks.write(d, "w<1?+1");
        d.clear();
        Desks.due("no text", d.rule(), -100);
        Desks.due("from the start", d.type('w'), 1);
        Desks.due("no more than that", d.rule(), -101);
        d.clear();
        Desks.due("no act", d.undo(), 3);
        Desks.due("no act", d.bandAt(3, 0, 0), BAD);
        Desks.due("not undone", d.type('w'), 1);
        Desks.says("Returns the number of characters that it had.");
        Desks.due("none", new ParcelDesk().clear(), 0);
        for (int i = 0; i <= 60; i++) {
            ParcelDesk row = new ParcelDesk();
            for (int k = 0; k < i; k++) {
                row.type('w');
            }
            Desks.due("characters", row.clear(), i);
            Desks.due("none", row.clear(), 0);
        }
        ParcelDesk full = Desks.make(Desks::full);
        full.type('w');
        Desks.due("a refused one does not count", full.clear(), 60);
    }

    private static void rule() {
        Desks.section("Promise 15: rule");
        Desks.says("`int rule()`: Adds the rule of the text, behind those that there are.");
        ParcelDesk d = Desks.make(Desks::fine);
        Desks.rule(d, "w>0?-99999");
        Desks.rule(d, "w>0?+8");
        Desks.due("in this order", d.quote(1, 1, 1, 1, 0), 8);
        Desks.says("The buffer is empty then (with an error it stays).");
        Desks.due("empty then", d.clear(), 0);
        for (String text : new String[] {"w>0", "w>0?+8!", "!"}) {
            Desks.write(d, text);
            d.rule();
            d.rule();
            Desks.due("it stays with " + text, d.clear(), text.length());
        }
        Desks.write(d, "w>0?+");
        d.rule();
        d.type('8');
        Desks.due("it stays, and can be mended", d.rule(), 3);
        Desks.write(d, "~((w>0");
        Desks.due("in parentheses", d.rule(), -106);
        d.type(')');
        Desks.due("in parentheses", d.rule(), -107);
        for (char c : ")?+8".toCharArray()) {
            d.type(c);
        }
        Desks.due("and out of them", d.rule(), 4);
        Desks.write(d, "((w>0");
        d.rule();
        Desks.due("a text behind it is read from its start", Desks.rule(d, "w>0?+8"), 5);
        Desks.due("a text behind it is read from its start", Desks.rule(d, "w>0)?+8"), -103);
        Desks.due("a text behind it is read from its start", Desks.rule(d, "w?0?+8"), -101);
        Desks.due("a text behind it is read from its start", Desks.rule(d, "w>0?+8"), 6);
        ParcelDesk full = Desks.make(Desks::full);
        Desks.write(full, "w>0?+1");
        Desks.due("FULL", full.rule(), FULL);
        full.unrule();
        Desks.due("it stays with FULL", full.rule(), 8);
        Desks.due("empty then", full.clear(), 0);
        Desks.says("This is an act.");
        Desks.acts("rule()", 3, Desks::busy, l -> l.rule());
        Desks.acts("the first rule", 1, l -> Desks.write(l, "w<1?+1"), l -> l.rule());
        Desks.acts("the eighth rule", 8, l -> {
            Desks.full(l);
            l.unrule();
            Desks.write(l, "~".repeat(54) + "w<1?+1");
        }, l -> l.rule());
        Desks.says("Returns the number of rules then; -100 minus the error place if the text has an "
            + "error; FULL if there are 8 rules.");
        ParcelDesk row = new ParcelDesk();
        for (int i = 1; i <= 8; i++) {
            Desks.due("rules", Desks.rule(row, "w<1?+1"), i);
        }
        Desks.Setup ninth = l -> {
            Desks.full(l);
            Desks.write(l, "w<1?+1");
        };
        Desks.leaves("a ninth one", FULL, ninth, l -> l.rule());
        Desks.leaves("an empty text", -100, l -> l.tick(1), l -> l.rule());
        Desks.leaves("an error at 0", -100, l -> Desks.write(l, "?"), l -> l.rule());
        Desks.leaves("an error at the last one", -159,
            l -> Desks.write(l, "~".repeat(59) + "?"), l -> l.rule());
        Desks.leaves("60 characters are too few", -160, Desks::full, l -> l.rule());
        Desks.leaves("an error ahead of FULL", -104, l -> {
            Desks.full(l);
            Desks.write(l, "w<1?");
        }, l -> l.rule());
        Desks.leaves("no text ahead of FULL", -100, l -> {
            Desks.full(l);
            l.clear();
        }, l -> l.rule());
    }

    private static void unrule() {
        Desks.section("Promise 16: unrule");
        Desks.says("`int unrule()`: Removes the last rule.");
        ParcelDesk d = Desks.make(Desks::fine);
        Desks.rule(d, "w>0?+1");
        Desks.rule(d, "w>0?+20");
        Desks.rule(d, "w>0?+300");
        d.unrule();
        Desks.due("the others stay", d.quote(1, 1, 1, 1, 0), 1021);
        d.unrule();
        d.unrule();
        Desks.due("none", d.quote(1, 1, 1, 1, 0), 1000);
        Desks.says("This is an act.");
        Desks.acts("of two", 1, Desks::busy, l -> l.unrule());
        Desks.acts("of eight", 7, Desks::full, l -> l.unrule());
        Desks.acts("the only one", 0, l -> Desks.rule(l, "w<1?+1"), l -> l.unrule());
        Desks.says("Returns the number of rules then; STATE if there are none.");
        ParcelDesk row = Desks.make(Desks::full);
        for (int left = 7; left >= 0; left--) {
            Desks.due("rules left", row.unrule(), left);
        }
        Desks.due("none", row.unrule(), STATE);
        Desks.leaves("none", STATE, Desks::few, l -> l.unrule());
        Desks.leaves("none on a new desk", STATE, Desks::fresh, l -> l.unrule());
    }

    private static void rules() {
        Desks.section("Promise 17: rules");
        Desks.says("`int rules()`: Returns the number of rules.");
        Desks.leaves("none", 0, Desks::fresh, l -> l.rules());
        Desks.leaves("two", 2, Desks::busy, l -> l.rules());
        Desks.says("Returns the number of rules.");
        Desks.leaves("eight", 8, Desks::full, l -> l.rules());
        ParcelDesk d = Desks.make(Desks::full);
        Desks.rule(d, "w<1?+1");
        Desks.due("not with FULL", d.rules(), 8);
    }

    // ---- parcels

    private static void take() {
        Desks.section("Promise 18: take");
        Desks.says("`int take(int a, int b, int c, int zone)`: Takes what lies on the scale as a "
            + "parcel, with the net weight as its real weight.");
        ParcelDesk d = Desks.make(Desks::fine);
        d.set(2, 10);
        Desks.weigh(d, 500);
        d.tare();
        Desks.due("its number", Desks.take(d, 725, 1, 2000, 3, 2), 0);
        int[] want = {230, 1, 2000, 3, 2};
        for (int i = 0; i < 5; i++) {
            Desks.due("parcel(0, " + i + ")", d.parcel(0, i), want[i]);
        }
        Desks.due("the scale is as it was", d.scale(3) + d.scale(7), 231);
        Desks.says("This is an act.");
        Desks.acts("the first one", 0, Desks::few, l -> l.take(1, 1, 1, 1));
        Desks.acts("one more", 2, Desks::ready, l -> l.take(2000, 2000, 2000, 0));
        Desks.acts("the last one", 29, l -> {
            Desks.fine(l);
            Desks.weigh(l, 500);
            for (int i = 0; i < 29; i++) {
                l.take(1, 1, 1, 0);
            }
        }, l -> l.take(1, 1, 1, 0));
        Desks.says("- `a`: a side, 1 to 2000");
        Desks.range("a", 1, 2000, Desks::ready, (l, side) -> l.take(side, 9, 9, 0));
        Desks.says("- `b`: likewise");
        Desks.range("b", 1, 2000, Desks::ready, (l, side) -> l.take(9, side, 9, 0));
        Desks.says("- `c`: likewise");
        Desks.range("c", 1, 2000, Desks::ready, (l, side) -> l.take(9, 9, side, 0));
        Desks.says("- `zone`: 0 to 3");
        Desks.range("zone", 0, 3, Desks::one, (l, zone) -> l.take(9, 9, 9, zone));
    }

    private static Desks.Setup loaded(int load) {
        return d -> {
            Desks.fine(d);
            Desks.weigh(d, 500);
            d.tare();
            Desks.weigh(d, load);
        };
    }

    private static void takeState() {
        Desks.says("Returns its number; BAD if an argument is not in its range; STATE if the scale is "
            + "not steady, is over, the net weight is less than 1, or the zone has no bands; FULL if "
            + "there are 30 parcels.");
        Desks.due("a net weight of 1", Desks.make(loaded(501)).take(1, 1, 1, 0), 0);
        Desks.leaves("a net weight of 0", STATE, loaded(500), l -> l.take(1, 1, 1, 0));
        Desks.leaves("a net weight of -1", STATE, loaded(499), l -> l.take(1, 1, 1, 0));
        Desks.leaves("nothing at all", STATE, loaded(0), l -> l.take(1, 1, 1, 0));
        Desks.due("at the capacity", Desks.make(loaded(30000)).take(1, 1, 1, 0), 0);
        Desks.leaves("over", STATE, loaded(30001), l -> l.take(1, 1, 1, 0));
        Desks.leaves("two ticks", STATE, l -> {
            loaded(700).on(l);
            l.load(700);
            l.tick(2);
        }, l -> l.take(1, 1, 1, 0));
        drifting(10, l -> l.take(1, 1, 1, 0));
        Desks.leaves("no bands", STATE, Desks::ready, l -> l.take(1, 1, 1, 3));
        int[] odd = {0, 2001, LOW, HIGH};
        for (int side : odd) {
            Desks.leaves("BAD ahead of a scale not steady", BAD, Desks::busy,
                l -> l.take(side, 1, 1, 0));
            Desks.leaves("BAD ahead of over", BAD, loaded(30001), l -> l.take(1, side, 1, 0));
            Desks.leaves("BAD ahead of no net weight", BAD, loaded(0), l -> l.take(1, 1, side, 0));
            Desks.leaves("BAD ahead of no bands", BAD, Desks::ready, l -> l.take(1, 1, side, 3));
            Desks.leaves("BAD ahead of FULL", BAD, Desks::full, l -> l.take(side, 1, 1, 3));
        }
        for (int zone : new int[] {-1, 4}) {
            Desks.leaves("BAD ahead of STATE", BAD, Desks::busy, l -> l.take(1, 1, 1, zone));
            Desks.leaves("BAD ahead of FULL", BAD, Desks::full, l -> l.take(1, 1, 1, zone));
        }
        Desks.leaves("30 parcels", FULL, Desks::full, l -> l.take(1, 1, 1, 0));
        fullAnd("a scale not steady", l -> l.load(950));
        fullAnd("over", l -> Desks.weigh(l, 30001));
        fullAnd("no net weight", l -> Desks.weigh(l, 0));
        fullAnd("no bands", l -> {
            for (int i = 0; i < 6; i++) {
                l.unband(0, 0);
            }
        });
    }

    private static void fullAnd(String what, Desks.Setup more) {
        Desks.leaves(what + " ahead of FULL", STATE, d -> {
            Desks.full(d);
            more.on(d);
        }, d -> d.take(1, 1, 1, 0));
    }

    private static void quote() {
        Desks.section("Promise 19: quote");
        Desks.says("`int quote(int weight, int a, int b, int c, int zone)`: Works out a charge, "
            + "without a parcel.");
        Desks.leaves("a charge", 300, Desks::busy, l -> l.quote(600, 100, 100, 100, 0));
        Desks.leaves("a charge by a rule", 225, Desks::busy, l -> l.quote(499, 1, 1, 1, 1));
        Desks.leaves("by the dimensional weight", 22, Desks::full,
            l -> l.quote(1, 100, 100, 301, 1));
        Desks.due("no parcel", Desks.make(Desks::busy).parcels(), 2);
        Desks.says("- `weight`: 1 to 100000, the real weight");
        Desks.range("weight", 1, 100000, Desks::busy, (l, weight) -> l.quote(weight, 9, 9, 9, 0));
        Desks.says("- `a`: a side, 1 to 2000");
        Desks.range("a", 1, 2000, Desks::busy, (l, side) -> l.quote(9, side, 9, 9, 0));
        Desks.says("- `b`: likewise");
        Desks.range("b", 1, 2000, Desks::busy, (l, side) -> l.quote(9, 9, side, 9, 0));
        Desks.says("- `c`: likewise");
        Desks.range("c", 1, 2000, Desks::busy, (l, side) -> l.quote(9, 9, 9, side, 0));
        Desks.says("- `zone`: 0 to 3");
        Desks.range("zone", 0, 3, Desks::full, (l, zone) -> l.quote(9, 9, 9, 9, zone));
        Desks.says("Returns the charge; BAD if an argument is not in its range; STATE if the zone has "
            + "no bands.");
        Desks.leaves("no bands", STATE, Desks::busy, l -> l.quote(9, 9, 9, 9, 3));
        Desks.leaves("no bands at all", STATE, Desks::fresh, l -> l.quote(9, 9, 9, 9, 0));
        for (int odd : new int[] {0, 100001, LOW, HIGH}) {
            Desks.leaves("BAD ahead of STATE", BAD, Desks::busy, l -> l.quote(odd, 9, 9, 9, 3));
            Desks.leaves("BAD ahead of STATE", BAD, Desks::busy, l -> l.quote(9, odd, 9, 9, 3));
            Desks.leaves("BAD ahead of STATE", BAD, Desks::busy, l -> l.quote(9, 9, odd, 9, 3));
            Desks.leaves("BAD ahead of STATE", BAD, Desks::busy, l -> l.quote(9, 9, 9, odd, 3));
        }
        ParcelDesk d = Desks.make(Desks::busy);
        d.load(0);
        Desks.due("whatever lies on the scale", d.quote(1000, 9, 9, 9, 0), 300);
        Desks.due("also with 30 parcels", Desks.make(Desks::full).quote(1, 1, 1, 1, 0), 11);
        d.unband(2, 0);
        Desks.due("without its last band", d.quote(9, 9, 9, 9, 2), STATE);
    }

    private static void parcel() {
        Desks.section("Promise 20: parcel");
        Desks.says("`int parcel(int parcel, int what)`: Returns a number of a parcel.");
        int[] want = {760, 260, 30, 40, 1, 63, 760, 250, 225, 400, 2};
        for (int what = 0; what <= 10; what++) {
            int asked = what;
            Desks.leaves("parcel(1, " + what + ")", want[what], Desks::busy,
                l -> l.parcel(1, asked));
        }
        Desks.says("- `parcel`: a parcel");
        Desks.range("parcel", 0, 1, Desks::busy, (l, parcel) -> l.parcel(parcel, 0));
        Desks.range("parcel", 0, 29, Desks::full, (l, parcel) -> l.parcel(parcel, 8));
        for (int what = 0; what <= 10; what++) {
            Desks.due("no parcels", new ParcelDesk().parcel(0, what), BAD);
        }
        Desks.says("- `what`: 0 its real weight, 1 to 3 its sides a, b and c, 4 its zone, 5 its "
            + "dimensional weight, 6 its billed weight, 7 the base of its charge, 8 its charge (5 to 8 "
            + "as they were worked out), 9 its girth, 10 its open note (NONE if there is none)");
        ParcelDesk d = Desks.make(Desks::busy);
        d.set(6, 1000);
        d.set(7, 1000);
        d.unband(1, 1);
        d.unband(1, 0);
        d.unrule();
        for (int what = 0; what <= 10; what++) {
            Desks.due("as it was worked out, " + what, d.parcel(1, what), want[what]);
        }
        Desks.due("none open", d.parcel(0, 10), NONE);
        ParcelDesk first = Desks.make(Desks::one);
        first.dispute(0, 0, 1);
        Desks.due("the first note of all", first.parcel(0, 10), 0);
        ParcelDesk full = Desks.make(Desks::full);
        for (int p = 0; p < 30; p++) {
            Desks.due("the open note of " + p, full.parcel(p, 10), p > 1 && p < 20 ? p : NONE);
        }
        Desks.says("Returns that number; BAD if there is no such parcel, or what is not in its range.");
        Desks.range("what", 0, 10, Desks::busy, (l, what) -> l.parcel(1, what));
        ParcelDesk undone = Desks.make(Desks::few);
        undone.take(1, 1, 1, 1);
        undone.undo();
        Desks.due("an undone one", undone.parcel(0, 0), BAD);
        Desks.due("neither", undone.parcel(30, 11), BAD);
    }

    private static void why() {
        Desks.section("Promise 21: why");
        Desks.says("`int why(int parcel, int i)`: Tells why a parcel has its charge, as a row of "
            + "reasons: first 1 if the real weight was greater, 2 if the dimensional one was, 3 if "
            + "they were the same; then 10 plus the index of the band whose price was taken, or 20 "
            + "alone if it was the last band with extra prices; then 30 plus k for each rule k whose "
            + "condition held, in order.");
        ParcelDesk d = Desks.make(Desks::fine);
        d.unband(0, 0);
        for (int i = 1; i <= 6; i++) {
            d.band(0, 10 * i, i);
        }
        Desks.weigh(d, 8);
        d.take(20, 20, 20, 0);
        row(d, 0, 3, 10);
        d.take(20, 20, 10, 0);
        row(d, 1, 1, 10);
        d.take(20, 20, 21, 0);
        row(d, 2, 2, 11);
        d.take(20, 20, 50, 0);
        row(d, 3, 2, 11);
        d.take(20, 30, 100, 0);
        row(d, 4, 2, 15);
        d.take(10, 10, 610, 0);
        row(d, 5, 2, 20);
        for (int i = 0; i < 8; i++) {
            Desks.rule(d, "v>" + 10 * i + "?+1");
        }
        d.take(20, 30, 100, 0);
        row(d, 6, 2, 15, 30, 31, 32, 33, 34, 35);
        d.take(10, 10, 710, 0);
        row(d, 7, 2, 20, 30, 31, 32, 33, 34, 35, 36, 37);
        d.take(10, 10, 10, 0);
        row(d, 8, 1, 10, 30);
        for (int i = 0; i < 8; i++) {
            d.unrule();
        }
        Desks.rule(d, "v>1?+1");
        Desks.rule(d, "v=1?+0");
        d.take(10, 10, 10, 0);
        row(d, 9, 1, 10, 31);
        d.unrule();
        d.unrule();
        d.band(0, 5, 9);
        row(d, 9, 1, 10, 31);
        row(d, 4, 2, 15);
        Desks.says("- `parcel`: a parcel");
        Desks.range("parcel", 0, 1, Desks::busy, (l, parcel) -> l.why(parcel, 0));
        Desks.range("parcel", 0, 29, Desks::full, (l, parcel) -> l.why(parcel, 0));
        Desks.says("- `i`: the index in the row, from 0");
        Desks.leaves("the first one", 1, Desks::busy, l -> l.why(1, 0));
        Desks.leaves("the last one", 31, Desks::busy, l -> l.why(1, 2));
        Desks.says("Returns the reason; BAD if there is no such parcel, or i is negative; NONE if there "
            + "are not so many.");
        for (int i : new int[] {3, 4, 9, 10, 11, 22, 1 << 16, HIGH}) {
            Desks.leaves("not so many", NONE, Desks::busy, l -> l.why(1, i));
            Desks.leaves("BAD ahead of NONE", BAD, Desks::busy, l -> l.why(2, i));
            Desks.leaves("BAD ahead of NONE", BAD, Desks::busy, l -> l.why(-1, i));
        }
        for (int i : new int[] {-1, -2, LOW}) {
            Desks.leaves("negative", BAD, Desks::busy, l -> l.why(1, i));
            Desks.leaves("negative, and no parcel", BAD, Desks::fresh, l -> l.why(0, i));
        }
    }

    private static void row(ParcelDesk d, int parcel, int... reasons) {
        for (int i = 0; i < reasons.length; i++) {
            Desks.due("why(" + parcel + ", " + i + ")", d.why(parcel, i), reasons[i]);
        }
        Desks.due("the end of " + parcel, d.why(parcel, reasons.length), NONE);
    }

    private static void parcels() {
        Desks.section("Promise 22: parcels");
        Desks.says("`int parcels()`: Returns the number of parcels.");
        Desks.leaves("none", 0, Desks::fresh, l -> l.parcels());
        Desks.leaves("two", 2, Desks::busy, l -> l.parcels());
        Desks.says("Returns the number of parcels.");
        Desks.leaves("all", 30, Desks::full, l -> l.parcels());
        ParcelDesk d = Desks.make(Desks::full);
        d.take(1, 1, 1, 0);
        Desks.due("not with FULL", d.parcels(), 30);
    }

    private static float density(int load, int a, int b, int c) {
        ParcelDesk d = Desks.make(Desks::fine);
        d.set(3, 70000);
        Desks.take(d, load, a, b, c, 0);
        return d.density(0);
    }

    private static void dueFloat(String what, float got, float want) {
        Desks.due(what, Float.floatToIntBits(got), Float.floatToIntBits(want));
    }

    private static void density() {
        Desks.section("Promise 23: density");
        Desks.says("`float density(int parcel)`: Returns the density of a parcel.");
        Desks.leaves("a density", Float.floatToIntBits(700f / 6000f), Desks::busy,
            l -> Float.floatToIntBits(l.density(0)));
        Desks.says("- `parcel`: a parcel");
        for (int parcel : new int[] {-1, 2, 29, 30, LOW, HIGH}) {
            Desks.leaves("no such parcel", Float.floatToIntBits(-1f), Desks::busy,
                l -> Float.floatToIntBits(l.density(parcel)));
        }
        dueFloat("the last one", Desks.make(Desks::full).density(29), 950f / 24f);
        dueFloat("beyond it", Desks.make(Desks::full).density(30), -1f);
        Desks.says("Returns its real weight divided by its volume in cubic centimeters (each begun one "
            + "of its sides whole), both as floats; -1 if there is no such parcel.");
        dueFloat("the greatest", density(70000, 1, 1, 1), 70000f);
        dueFloat("the least", density(1, 2000, 2000, 2000), 1f / 8000000f);
        dueFloat("10 by 10 by 10", density(7, 10, 10, 10), 7f);
        dueFloat("11 by 10 by 10", density(7, 11, 10, 10), 3.5f);
        dueFloat("10 by 11 by 10", density(7, 10, 11, 10), 3.5f);
        dueFloat("10 by 10 by 11", density(7, 10, 10, 11), 3.5f);
        dueFloat("by 3", density(1, 30, 10, 10), 1f / 3f);
        dueFloat("by 49", density(69999, 70, 70, 10), 69999f / 49f);
        dueFloat("the greatest volume", density(69999, 2000, 1990, 1990), 69999f / 7920200f);
        dueFloat("no parcels", new ParcelDesk().density(0), -1f);
    }

    // ---- disputes

    private static void dispute() {
        Desks.section("Promise 24: dispute");
        Desks.says("`int dispute(int parcel, int what, int value)`: Writes a note (also one that claims "
            + "the value that there is).");
        ParcelDesk d = Desks.make(Desks::one);
        int[] values = {900, 30, 20, 10};
        for (int what = 0; what <= 3; what++) {
            Desks.due("the value that there is", d.dispute(0, what, values[what]), what);
            Desks.due("its claim", d.note(what, 3), 1000);
            Desks.due("the parcel stays", d.parcel(0, what), values[what]);
            Desks.due("nothing to refund", d.settle(what, true), 0);
            Desks.due("the parcel stays", d.parcel(0, what), values[what]);
        }
        Desks.says("This is an act.");
        Desks.acts("the first note", 0, Desks::one, l -> l.dispute(0, 0, 1));
        Desks.acts("with the value that there is", 0, Desks::one, l -> l.dispute(0, 0, 900));
        Desks.acts("one more", 3, Desks::busy, l -> l.dispute(0, 3, 2000));
        Desks.acts("the last one", 19, l -> {
            Desks.one(l);
            for (int i = 0; i < 19; i++) {
                l.dispute(0, 0, 1 + i);
                l.settle(i, i % 2 == 0);
            }
        }, l -> l.dispute(0, 0, 1));
        Desks.says("- `parcel`: a parcel");
        Desks.range("parcel", 0, 0, Desks::one, (l, parcel) -> l.dispute(parcel, 0, 1));
        Desks.range("parcel", 0, 29, Desks::full, (l, parcel) -> l.dispute(parcel, 0, 1));
        Desks.says("- `what`: 0 for its real weight, 1 to 3 for its sides");
        Desks.range("what", 0, 3, Desks::one, (l, what) -> l.dispute(0, what, 1));
        for (int what = 0; what <= 3; what++) {
            ParcelDesk changed = Desks.make(Desks::one);
            changed.dispute(0, what, 7);
            changed.settle(0, true);
            for (int i = 0; i <= 3; i++) {
                Desks.due("number " + i, changed.parcel(0, i), i == what ? 7 : values[i]);
            }
        }
        Desks.says("- `value`: the claimed value, 1 to 100000, for sides 1 to 2000");
        Desks.range("real weight", 1, 100000, Desks::one, (l, value) -> l.dispute(0, 0, value));
        Desks.range("a", 1, 2000, Desks::one, (l, value) -> l.dispute(0, 1, value));
        Desks.range("b", 1, 2000, Desks::one, (l, value) -> l.dispute(0, 2, value));
        Desks.range("c", 1, 2000, Desks::one, (l, value) -> l.dispute(0, 3, value));
        Desks.due("a real weight above a side's limit", Desks.make(Desks::one).dispute(0, 0, 2001), 0);
    }

    private static void disputeErrors() {
        Desks.says("Returns the number of the note; BAD if there is no such parcel, or an argument is "
            + "not in its range; STATE if the parcel has an open note, or its zone has no bands; FULL "
            + "if there are 20 notes.");
        Desks.leaves("an open note", STATE, Desks::busy, l -> l.dispute(1, 0, 1));
        Desks.Setup bare = l -> {
            Desks.busy(l);
            l.unband(0, 0);
            l.unband(0, 0);
        };
        Desks.leaves("no bands", STATE, bare, l -> l.dispute(0, 0, 1));
        Desks.Setup bareAndOpen = l -> {
            bare.on(l);
            l.unband(1, 0);
            l.unband(1, 0);
        };
        Desks.leaves("an open note and no bands", STATE, bareAndOpen, l -> l.dispute(1, 0, 1));
        Desks.leaves("20 notes", FULL, Desks::full, l -> l.dispute(29, 3, 1));
        int[][] odd = {{-1, 0, 1}, {30, 0, 1}, {1, -1, 1}, {1, 4, 1}, {1, 0, 0}, {1, 0, 100001},
            {1, 1, 0}, {1, 1, 2001}, {1, 2, 2001}, {1, 3, 2001}, {HIGH, HIGH, HIGH}, {LOW, LOW, LOW}};
        for (int[] call : odd) {
            Desks.Call asked = l -> l.dispute(call[0], call[1], call[2]);
            Desks.leaves("BAD ahead of an open note", BAD, Desks::busy, asked);
            Desks.leaves("BAD ahead of no bands", BAD, bareAndOpen, asked);
            Desks.leaves("BAD ahead of FULL", BAD, Desks::full, asked);
            Desks.leaves("BAD without parcels", BAD, Desks::fresh, asked);
        }
        Desks.leaves("an open note ahead of FULL", STATE, Desks::full, l -> l.dispute(19, 0, 1));
        Desks.leaves("no bands ahead of FULL", STATE, l -> {
            Desks.full(l);
            for (int i = 0; i < 6; i++) {
                l.unband(0, 0);
            }
        }, l -> l.dispute(28, 0, 1));
        ParcelDesk d = Desks.make(Desks::busy);
        Desks.due("a refused one takes no number", d.dispute(0, 0, 0), BAD);
        Desks.due("the next number", d.dispute(0, 0, 1), 3);
    }

    private static void settle() {
        Desks.section("Promise 25: settle");
        Desks.says("`int settle(int note, boolean accept)`: Settles an open note.");
        ParcelDesk d = Desks.make(Desks::full);
        for (int n = 2; n < 20; n++) {
            d.settle(n, n % 2 == 0);
            Desks.due("its state", d.note(n, 4), n % 2 == 0 ? 1 : 2);
            Desks.due("not open any more", d.parcel(n, 10), NONE);
            Desks.due("the number", d.parcel(n, n % 4), n % 2 == 0 ? 5 + n : before(n));
        }
        Desks.says("This is an act.");
        Desks.acts("accepted", -25, Desks::busy, l -> l.settle(2, true));
        Desks.acts("rejected", 0, Desks::busy, l -> l.settle(2, false));
        Desks.acts("accepted, nothing changes", 0, l -> {
            Desks.one(l);
            l.dispute(0, 0, 900);
        }, l -> l.settle(0, true));
        Desks.says("- `note`: a note");
        Desks.due("the last one", Desks.make(Desks::full).settle(19, false), 0);
        Desks.leaves("beyond it", BAD, Desks::full, l -> l.settle(20, false));
        Desks.range("note", 0, 0, l -> {
            Desks.one(l);
            l.dispute(0, 0, 1);
        }, (l, n) -> l.settle(n, false));
        Desks.says("- `accept`: true to accept it, false to reject it");
        ParcelDesk both = Desks.make(Desks::one);
        both.dispute(0, 0, 1);
        both.settle(0, false);
        Desks.due("rejected", both.parcel(0, 0), 900);
        both.dispute(0, 0, 1);
        both.settle(1, true);
        Desks.due("accepted", both.parcel(0, 0), 1);
        Desks.says("Returns what is refunded by this (less than 0 if the charge is greater then; 0 if "
            + "it is rejected); BAD if there is no such note; STATE if it is not open.");
        refunds();
        for (int note : new int[] {-1, 3, 19, 20, LOW, HIGH}) {
            Desks.leaves("no such note", BAD, Desks::busy, l -> l.settle(note, true));
            Desks.leaves("no such note", BAD, Desks::busy, l -> l.settle(note, false));
        }
        Desks.leaves("no notes", BAD, Desks::fresh, l -> l.settle(0, true));
        for (int note = 0; note < 2; note++) {
            int settled = note;
            Desks.leaves("not open", STATE, Desks::busy, l -> l.settle(settled, true));
            Desks.leaves("not open", STATE, Desks::full, l -> l.settle(settled, false));
        }
    }

    private static int before(int parcel) {
        int[] numbers = {950, 10 + parcel, 20, 30};
        return numbers[parcel % 4];
    }

    private static void refunds() {
        ParcelDesk d = Desks.make(Desks::one);
        d.band(0, 500, 999);
        d.band(0, 950, 1001);
        d.dispute(0, 0, 500);
        Desks.due("1 less", d.settle(0, true), 1);
        d.dispute(0, 0, 501);
        Desks.due("2 more", d.settle(1, true), -2);
        d.dispute(0, 0, 950);
        Desks.due("the same", d.settle(2, true), 0);
        d.dispute(0, 0, 951);
        Desks.due("rejected", d.settle(3, false), 0);
        Desks.due("rejected", d.parcel(0, 8), 1001);
        for (int i = 0; i < 3; i++) {
            Desks.rule(d, "l=2000?*99999");
        }
        Desks.rule(d, "l=2000?+99999");
        d.dispute(0, 1, 2000);
        Desks.due("to 1000000000", d.settle(4, true), 1001 - 1000000000);
        d.unrule();
        d.unrule();
        d.unrule();
        d.unrule();
        d.band(0, 1500, 0);
        d.dispute(0, 0, 1500);
        Desks.due("and to 0", d.settle(5, true), 1000000000);
        Desks.due("the charge", d.parcel(0, 8), 0);
    }

    private static void note() {
        Desks.section("Promise 26: note");
        Desks.says("`int note(int note, int what)`: Returns a number of a note.");
        int[] want = {1, 1, 20, 250, 0, 0};
        for (int what = 0; what <= 5; what++) {
            int asked = what;
            Desks.leaves("note(2, " + what + ")", want[what], Desks::busy, l -> l.note(2, asked));
        }
        Desks.says("- `note`: a note");
        Desks.range("note", 0, 2, Desks::busy, (l, note) -> l.note(note, 0));
        Desks.range("note", 0, 19, Desks::full, (l, note) -> l.note(note, 5));
        for (int what = 0; what <= 5; what++) {
            Desks.due("no notes", new ParcelDesk().note(0, what), BAD);
        }
        Desks.says("- `what`: 0 its parcel, 1 which number, 0 to 3, 2 the claimed value, 3 its claim, 4 "
            + "its state: 0 open, 1 accepted, 2 rejected, 5 what was refunded (0 if nothing was)");
        ParcelDesk d = Desks.make(Desks::full);
        for (int n = 0; n < 20; n++) {
            Desks.due("its parcel", d.note(n, 0), n);
            Desks.due("which number", d.note(n, 1), n % 4);
            Desks.due("the value", d.note(n, 2), 5 + n);
            Desks.due("its state", d.note(n, 4), n == 0 ? 1 : n == 1 ? 2 : 0);
        }
        ParcelDesk refund = Desks.make(Desks::one);
        refund.band(0, 899, 400);
        refund.dispute(0, 0, 899);
        Desks.due("open", refund.note(0, 5), 0);
        refund.settle(0, false);
        Desks.due("rejected", refund.note(0, 5), 0);
        refund.dispute(0, 0, 899);
        refund.settle(1, true);
        Desks.due("accepted", refund.note(1, 5), 600);
        refund.dispute(0, 0, 900);
        refund.settle(2, true);
        Desks.due("less than 0", refund.note(2, 5), -600);
        refund.dispute(0, 0, 900);
        refund.settle(3, true);
        Desks.due("nothing", refund.note(3, 5), 0);
        Desks.due("its claim", refund.note(1, 3), 400);
        Desks.due("its claim", refund.note(2, 3), 1000);
        Desks.says("Returns that number; BAD if there is no such note, or what is not in its range.");
        Desks.range("what", 0, 5, Desks::busy, (l, what) -> l.note(2, what));
        Desks.leaves("neither", BAD, Desks::busy, l -> l.note(3, 6));
        refund.dispute(0, 0, 900);
        refund.undo();
        Desks.due("an undone one", refund.note(4, 0), BAD);
    }

    private static void notes() {
        Desks.section("Promise 27: notes");
        Desks.says("`int notes()`: Returns the number of notes.");
        Desks.leaves("none", 0, Desks::fresh, l -> l.notes());
        Desks.leaves("three", 3, Desks::busy, l -> l.notes());
        Desks.says("Returns the number of notes.");
        Desks.leaves("all", 20, Desks::full, l -> l.notes());
        ParcelDesk d = Desks.make(Desks::full);
        d.dispute(29, 0, 1);
        Desks.due("not with FULL", d.notes(), 20);
    }

    private static void sum() {
        Desks.section("Promise 28: sum");
        Desks.says("`long sum(int what)`: Returns a sum.");
        for (int what = 0; what <= 4; what++) {
            int asked = what;
            Desks.leaves("of nothing", 0, Desks::fresh, l -> l.sum(asked));
            Desks.leaves("sum(" + what + ")", Desks.make(Desks::busy).sum(what), Desks::busy,
                l -> l.sum(asked));
        }
        Desks.says("- `what`: 0 the charges of all parcels, 1 what was refunded in all, 2 the real "
            + "weights, 3 the billed weights, 4 the number of parcels whose dimensional weight was "
            + "greater");
        for (Desks.Setup desk : new Desks.Setup[] {Desks::busy, Desks::full}) {
            long[] sums = new long[5];
            ParcelDesk d = Desks.make(desk);
            for (int p = 0; p < d.parcels(); p++) {
                sums[0] += d.parcel(p, 8);
                sums[2] += d.parcel(p, 0);
                sums[3] += d.parcel(p, 6);
                sums[4] += d.parcel(p, 5) > d.parcel(p, 0) ? 1 : 0;
            }
            for (int n = 0; n < d.notes(); n++) {
                sums[1] += d.note(n, 5);
            }
            for (int what = 0; what <= 4; what++) {
                Desks.due("sum(" + what + ")", d.sum(what), sums[what]);
            }
        }
        ParcelDesk great = Desks.make(Desks::one);
        great.take(10, 10, 8990, 0);
        great.take(100, 90, 100, 0);
        great.take(100, 90, 101, 0);
        Desks.due("900 and 990 by 900", great.sum(4), 1);
        greatSums();
        Desks.says("Returns the sum; BAD if what is not in its range.");
        Desks.range("what", 0, 4, Desks::busy, (l, what) -> l.sum(what));
        Desks.range("what", 0, 4, Desks::fresh, (l, what) -> l.sum(what));
    }

    /** Sums that no int could hold. */
    private static void greatSums() {
        ParcelDesk d = Desks.make(Desks::fine);
        for (int i = 0; i < 8; i++) {
            Desks.rule(d, "l=2000?*99999");
        }
        Desks.weigh(d, 900);
        for (int i = 0; i < 30; i++) {
            d.take(2000, 10, 10, 0);
        }
        Desks.due("30 times 1000000000", d.sum(0), 30000000000L);
        for (int i = 0; i < 20; i++) {
            d.dispute(i, 1, 1);
            d.settle(i, true);
        }
        Desks.due("20 refunds", d.sum(1), 20 * (1000000000L - 1000));
        Desks.due("what is left", d.sum(0), 10000000000L + 20 * 1000);
        ParcelDesk less = Desks.make(Desks::fine);
        for (int i = 0; i < 8; i++) {
            Desks.rule(less, "l=2000?*99999");
        }
        Desks.weigh(less, 900);
        for (int i = 0; i < 20; i++) {
            less.take(1, 10, 10, 0);
            less.dispute(i, 1, 2000);
            less.settle(i, true);
        }
        Desks.due("20 refunds less than 0", less.sum(1), -20 * (1000000000L - 1000));
    }

    // ---- what would be cheaper

    private static Desks.Setup priced(int real, String... rules) {
        return d -> {
            Desks.fine(d);
            Desks.take(d, real, 30, 20, 10, 0);
            for (String rule : rules) {
                Desks.rule(d, rule);
            }
        };
    }

    private static void lighter() {
        Desks.section("Promise 29: lighter");
        Desks.says("`int lighter(int parcel)`: Finds how much lighter a parcel would have to be, with "
            + "settings, bands and rules as they are now (for its charge now, too, which can differ "
            + "from parcel() 8).");
        ParcelDesk d = Desks.make(Desks::one);
        Desks.due("nothing is cheaper", d.lighter(0), NONE);
        d.band(0, 800, 999);
        Desks.due("a band more", d.lighter(0), 100);
        d.set(7, 30);
        Desks.due("another unit", d.lighter(0), 120);
        d.band(0, 899, 998);
        Desks.due("one more", d.lighter(0), 30);
        d.set(7, 1);
        Desks.due("another unit", d.lighter(0), 1);
        d.set(6, 1000);
        d.band(0, 900, 997);
        Desks.due("its charge now, which is not 1000", d.lighter(0), NONE);
        Desks.due("its charge as it was worked out", d.parcel(0, 8), 1000);
        Desks.rule(d, "r<900&r>898?-2");
        Desks.due("a rule", d.lighter(0), 1);
        d.unrule();
        Desks.rule(d, "r<898?-1");
        Desks.due("no less than its charge now", d.lighter(0), NONE);
        d.unrule();
        Desks.rule(d, "r<898?-2");
        Desks.due("less than its charge now", d.lighter(0), 3);
        Desks.says("- `parcel`: a parcel");
        Desks.range("parcel", 0, 1, Desks::busy, (l, parcel) -> l.lighter(parcel));
        Desks.range("parcel", 0, 29, Desks::full, (l, parcel) -> l.lighter(parcel));
    }

    private static void lighterLeast() {
        Desks.says("Returns the least number of grams, from 1 on, by which its real weight would have "
            + "to be less (still at least 1) so that its charge would be less than as worked out now; "
            + "BAD if there is no such parcel; STATE if its zone has no bands; NONE if there is none.");
        Desks.leaves("a gram", 1, priced(900, "r=899?-1"), l -> l.lighter(0));
        Desks.leaves("a gram", 1, priced(900, "r>899?+1"), l -> l.lighter(0));
        Desks.leaves("not the weight itself", NONE, priced(900, "r=900?-1"), l -> l.lighter(0));
        Desks.leaves("two grams", 2, priced(900, "r<899?-1"), l -> l.lighter(0));
        Desks.leaves("the least of two", 10, priced(900, "r=100?-9", "r=890?-1"), l -> l.lighter(0));
        Desks.leaves("down to 1", 899, priced(900, "r=1?-1"), l -> l.lighter(0));
        Desks.leaves("not down to 0", NONE, priced(900, "r=0?-1"), l -> l.lighter(0));
        Desks.leaves("not down to 0", NONE, priced(900, "r<1?-1"), l -> l.lighter(0));
        Desks.leaves("of 1 gram", NONE, priced(1, "r<1?-1"), l -> l.lighter(0));
        Desks.leaves("of 2 grams", 1, priced(2, "r<2?-1"), l -> l.lighter(0));
        Desks.leaves("down to the dimensional weight", 894, priced(900, "w=6?-1"),
            l -> l.lighter(0));
        Desks.leaves("below the dimensional weight", NONE, priced(900, "w=5?-1"),
            l -> l.lighter(0));
        Desks.leaves("a charge of 0", NONE, priced(900, "w>0?-99999", "r<900?-1"),
            l -> l.lighter(0));
        Desks.leaves("rules that take turns", 301, priced(900, "r<900?+5", "r<600?-6"),
            l -> l.lighter(0));
        Desks.leaves("an extra price less", 400, l -> {
            priced(900).on(l);
            l.unband(0, 0);
            l.band(0, 500, 5);
        }, l -> l.lighter(0));
        Desks.leaves("one of two extra prices less", 150, l -> {
            priced(1900).on(l);
            l.unband(0, 0);
            l.band(0, 750, 5);
        }, l -> l.lighter(0));
        units();
        Desks.leaves("no bands", STATE, l -> {
            Desks.one(l);
            l.unband(0, 0);
        }, l -> l.lighter(0));
        for (int parcel : new int[] {-1, 1, 30, LOW, HIGH}) {
            Desks.leaves("BAD ahead of STATE", BAD, l -> {
                Desks.one(l);
                l.unband(0, 0);
            }, l -> l.lighter(parcel));
        }
        Desks.leaves("no parcels", BAD, Desks::fresh, l -> l.lighter(0));
        Desks.leaves("a heavy one", 99998, l -> {
            Desks.one(l);
            l.dispute(0, 0, 100000);
            l.settle(0, true);
            Desks.rule(l, "r<3&r>1?-1");
        }, l -> l.lighter(0));
    }

    /** Weights are billed by tens, and the turns of conditions lie anywhere between them. */
    private static void units() {
        int[] reals = {900, 905, 909, 910, 911, 919, 920};
        for (int real : reals) {
            for (int number = 890; number <= 930; number++) {
                int billed = (real + 9) / 10 * 10;
                String[] conditions = {"w<" + number, "w=" + number, "r<" + number, "r=" + number,
                    "z=1|~(l=7|~w<" + number + ")", "z=1|(l=7&z=1|r<" + number + "&z=0)"};
                int[] most = {(number - 1) / 10 * 10, number % 10 == 0 ? number : 0, number - 1,
                    number, (number - 1) / 10 * 10, number - 1};
                boolean[] already = {billed < number, billed == number, real < number,
                    real == number, billed < number, real < number};
                for (int i = 0; i < conditions.length; i++) {
                    ParcelDesk d = Desks.make(priced(real, conditions[i] + "?-1"));
                    d.set(7, 10);
                    boolean none = already[i] || most[i] == 0 || most[i] >= real;
                    Desks.due(real + " with " + conditions[i], d.lighter(0),
                        none ? NONE : real - most[i]);
                }
            }
        }
        ParcelDesk wide = Desks.make(Desks::fine);
        wide.band(0, 500, 900);
        wide.band(0, 400, 800);
        Desks.take(wide, 500, 100, 100, 60, 0);
        Desks.due("a greater dimensional weight", wide.lighter(0), NONE);
        Desks.rule(wide, "r<450?-1");
        Desks.due("a greater dimensional weight, and a rule", wide.lighter(0), 51);
    }

    private static void shorter() {
        Desks.section("Promise 30: shorter");
        Desks.says("`int shorter(int parcel, int side)`: Finds how much shorter a side would have to "
            + "be, likewise.");
        ParcelDesk d = Desks.make(Desks::one);
        Desks.due("nothing is cheaper", d.shorter(0, 1), NONE);
        Desks.rule(d, "l<30?-1");
        Desks.due("a rule more", d.shorter(0, 1), 1);
        Desks.due("of another side", d.shorter(0, 2), NONE);
        d.unrule();
        Desks.rule(d, "v<6?-1");
        Desks.due("the dimensional weight by a", d.shorter(0, 1), 10);
        Desks.due("the dimensional weight by b", d.shorter(0, 2), 10);
        Desks.due("c cannot", d.shorter(0, 3), NONE);
        d.set(6, 5000);
        Desks.due("its charge now, by another divisor", d.shorter(0, 1), NONE);
        d.unrule();
        d.set(6, 1000);
        d.dispute(0, 0, 1);
        d.settle(0, true);
        d.band(0, 4, 999);
        Desks.due("the billed weight by a", d.shorter(0, 1), 10);
        Desks.due("the billed weight by b", d.shorter(0, 2), 10);
        d.band(0, 3, 998);
        d.set(7, 3);
        Desks.due("the unit", d.shorter(0, 2), 10);
        Desks.due("the unit", d.shorter(0, 1), 20);
        Desks.says("- `parcel`: a parcel");
        Desks.range("parcel", 0, 1, Desks::busy, (l, parcel) -> l.shorter(parcel, 1));
        Desks.range("parcel", 0, 29, Desks::full, (l, parcel) -> l.shorter(parcel, 3));
        Desks.says("- `side`: 1 to 3");
        Desks.range("side", 1, 3, Desks::busy, (l, side) -> l.shorter(1, side));
        for (int side = 1; side <= 3; side++) {
            ParcelDesk each = Desks.make(priced(900, "g=" + (90 - (side == 1 ? 1 : 2)) + "?-1"));
            Desks.due("side " + side, each.shorter(0, side), 1);
        }
    }

    private static void shorterLeast() {
        Desks.says("Returns the least number of millimeters, from 1 on, by which the side would have to "
            + "be less (still at least 1) so that its charge would be less than as worked out now; BAD "
            + "if there is no such parcel, or side is not in its range; STATE if its zone has no "
            + "bands; NONE if there is none.");
        Desks.leaves("a millimeter", 1, priced(900, "l=29?-1"), l -> l.shorter(0, 1));
        Desks.leaves("not the length itself", NONE, priced(900, "l=30?-1"), l -> l.shorter(0, 1));
        Desks.leaves("two millimeters", 2, priced(900, "l<29?-1"), l -> l.shorter(0, 1));
        Desks.leaves("the least of two", 3, priced(900, "l=20?-9", "l=27?-1"), l -> l.shorter(0, 1));
        Desks.leaves("not the longest any more", NONE, priced(900, "l=19?-1"), l -> l.shorter(0, 1));
        Desks.leaves("as long as the next", 10, priced(900, "l=20?-1"), l -> l.shorter(0, 1));
        Desks.leaves("down to 1", 19, priced(900, "g=52?-1"), l -> l.shorter(0, 2));
        Desks.leaves("not down to 0", NONE, priced(900, "g=50?-1"), l -> l.shorter(0, 2));
        Desks.leaves("down to 1", 9, priced(900, "g=72?-1"), l -> l.shorter(0, 3));
        Desks.leaves("not down to 0", NONE, priced(900, "g=70?-1"), l -> l.shorter(0, 3));
        Desks.leaves("not below 0", NONE, priced(900, "g<70?-1"), l -> l.shorter(0, 3));
        Desks.Setup small = l -> {
            Desks.fine(l);
            Desks.take(l, 900, 1, 2, 2000, 0);
            Desks.rule(l, "g<2006?-1");
            Desks.rule(l, "l=1?-1");
        };
        Desks.leaves("of 1 millimeter", NONE, small, l -> l.shorter(0, 1));
        Desks.leaves("of 2 millimeters", 1, small, l -> l.shorter(0, 2));
        Desks.leaves("of 2000 millimeters", 1, small, l -> l.shorter(0, 3));
        Desks.leaves("of 2000 millimeters, down to 1", 1999, l -> {
            Desks.fine(l);
            Desks.take(l, 900, 1, 1, 2000, 0);
            Desks.rule(l, "l=1?-1");
        }, l -> l.shorter(0, 3));
        Desks.Setup bare = l -> {
            Desks.one(l);
            l.unband(0, 0);
        };
        for (int side = 1; side <= 3; side++) {
            int of = side;
            Desks.leaves("no bands", STATE, bare, l -> l.shorter(0, of));
            Desks.leaves("no parcels", BAD, Desks::fresh, l -> l.shorter(0, of));
            Desks.leaves("BAD ahead of STATE", BAD, bare, l -> l.shorter(1, of));
            Desks.leaves("BAD ahead of STATE", BAD, bare, l -> l.shorter(-1, of));
        }
        for (int side : new int[] {0, 4, LOW, HIGH}) {
            Desks.leaves("BAD ahead of STATE", BAD, bare, l -> l.shorter(0, side));
            Desks.leaves("neither", BAD, bare, l -> l.shorter(1, side));
        }
    }

    private static void cheapest() {
        Desks.section("Promise 31: cheapest");
        Desks.says("`int cheapest(int parcel)`: Finds the zone in which a parcel would cost least.");
        for (int zone = 0; zone < 4; zone++) {
            ParcelDesk d = Desks.make(Desks::one);
            d.band(zone, 100000, 999);
            Desks.due("by 1 less", d.cheapest(0), zone);
            d.band(zone, 100000, 1001);
            Desks.due("by 1 more", d.cheapest(0), zone == 0 ? 1 : 0);
            ParcelDesk ruled = Desks.make(Desks::one);
            Desks.rule(ruled, "z=" + zone + "?-1");
            Desks.due("by a rule", ruled.cheapest(0), zone);
        }
        Desks.says("- `parcel`: a parcel");
        Desks.range("parcel", 0, 1, Desks::busy, (l, parcel) -> l.cheapest(parcel));
        Desks.range("parcel", 0, 29, Desks::full, (l, parcel) -> l.cheapest(parcel));
        Desks.says("Returns the zone, of those with bands, of several the smallest number; BAD if there "
            + "is no such parcel; NONE if no zone has bands.");
        for (int mask = 0; mask < 16; mask++) {
            int with = mask;
            int smallest = mask == 0 ? NONE : Integer.numberOfTrailingZeros(mask);
            Desks.Setup some = l -> {
                Desks.one(l);
                for (int zone = 0; zone < 4; zone++) {
                    if ((with >> zone & 1) == 0) {
                        l.unband(zone, 0);
                    }
                }
            };
            Desks.leaves("of several", smallest, some, l -> l.cheapest(0));
            Desks.leaves("BAD ahead of NONE", BAD, some, l -> l.cheapest(1));
            Desks.leaves("BAD ahead of NONE", BAD, some, l -> l.cheapest(-1));
        }
        ParcelDesk free = Desks.make(Desks::one);
        free.band(2, 100000, 0);
        free.band(3, 100000, 0);
        Desks.due("for nothing", free.cheapest(0), 2);
        free.dispute(0, 0, 100000);
        free.settle(0, true);
        for (int i = 0; i < 4; i++) {
            Desks.rule(free, "r>0?+99999");
            Desks.rule(free, "r>0?*99999");
        }
        Desks.due("1000000000 everywhere", free.cheapest(0), 0);
        Desks.leaves("no parcels", BAD, Desks::fresh, l -> l.cheapest(0));
    }

    // ---- history

    private static void undo() {
        Desks.section("Promise 32: undo");
        Desks.says("`int undo()`: Undoes the latest act.");
        ParcelDesk d = Desks.make(Desks::full);
        long start = d.fingerprint();
        d.load(1);
        long loaded = d.fingerprint();
        d.tick(100);
        d.load(-1);
        d.type('w');
        d.undo();
        Desks.due("the tick", d.fingerprint(), loaded);
        d.undo();
        Desks.due("the load", d.fingerprint(), start);
        d.undo();
        Desks.due("the rejected note", d.note(1, 4), 0);
        Desks.due("not the accepted one", d.note(0, 4), 1);
        d.undo();
        Desks.due("the accepted note", d.note(0, 4), 0);
        Desks.due("no more", d.undo(), NONE);
        d.settle(0, true);
        d.settle(1, false);
        Desks.due("as it was", d.fingerprint(), start);
        Desks.says("Returns how many states the history still has; NONE if it has none.");
        Desks.leaves("none", NONE, Desks::fresh, l -> l.undo());
        for (int acts = 1; acts <= 12; acts++) {
            ParcelDesk row = new ParcelDesk();
            for (int i = 1; i <= acts; i++) {
                row.setExtra(0, i);
            }
            for (int left = Math.min(acts, 4) - 1; left >= 0; left--) {
                Desks.due("still there", row.undo(), left);
            }
            Desks.due("none", row.undo(), NONE);
            Desks.due("none", row.undo(), NONE);
            row.setExtra(0, 1);
            row.setExtra(0, 2);
            Desks.due("anew", row.undo(), 1);
            row.setExtra(0, 3);
            row.setExtra(0, 4);
            row.setExtra(0, 5);
            Desks.due("anew", row.undo(), 3);
            Desks.due("the value", row.setExtra(0, 9), 4);
        }
        ParcelDesk wide = Desks.make(Desks::full);
        wide.undo();
        wide.undo();
        wide.undo();
        Desks.due("the oldest one", wide.undo(), 0);
        Desks.leaves("none any more", NONE, l -> {
            Desks.busy(l);
            for (int i = 0; i < 4; i++) {
                l.undo();
            }
        }, l -> l.undo());
    }

    private static long print(Desks.Setup setup) {
        ParcelDesk d = Desks.make(setup);
        long print = 191;
        for (int i = 0; i < 8; i++) {
            print = 31 * print + d.setting(i);
        }
        for (int i = 0; i <= 10; i++) {
            print = 31 * print + d.scale(i);
        }
        for (int zone = 0; zone < 4; zone++) {
            int bands = 0;
            while (d.bandAt(zone, bands, 0) != BAD) {
                bands++;
            }
            print = 31 * print + bands;
            for (int i = 0; i < bands; i++) {
                print = 31 * print + d.bandAt(zone, i, 0);
                print = 31 * print + d.bandAt(zone, i, 1);
            }
            print = 31 * print + Desks.make(setup).setExtra(zone, 0);
        }
        print = 31 * print + d.rules();
        print = 31 * print + d.parcels();
        for (int p = 0; p < d.parcels(); p++) {
            ParcelDesk again = Desks.make(setup);
            for (int i = 0; i <= 10; i++) {
                print = 31 * print + again.parcel(p, i);
            }
            for (int i = 0; again.why(p, i) != NONE; i++) {
                print = 31 * print + again.why(p, i);
            }
        }
        ParcelDesk rest = Desks.make(setup);
        print = 31 * print + rest.notes();
        for (int n = 0; n < rest.notes(); n++) {
            for (int i = 0; i <= 5; i++) {
                print = 31 * print + rest.note(n, i);
            }
        }
        for (int i = 0; i <= 4; i++) {
            print = 31 * print + rest.sum(i);
        }
        return print;
    }

    private static void fingerprint() {
        Desks.section("Promise 33: fingerprint");
        Desks.says("`long fingerprint()`: Returns a fingerprint.");
        Desks.leaves("no act", Desks.make(Desks::full).fingerprint(), Desks::full,
            l -> l.fingerprint());
        ParcelDesk d = Desks.make(Desks::busy);
        long start = d.fingerprint();
        Desks.due("again", d.fingerprint(), start);
        d.type('w');
        Desks.due("not of the buffer", d.fingerprint(), start);
        d.set(0, d.setting(0));
        Desks.due("not of the history", d.fingerprint(), start);
        Desks.says("It starts as 191; then, for each of the following numbers, in this order, it "
            + "becomes 31 times itself plus the number, in long arithmetic with overflow: setting() 0 "
            + "to 7; scale() 0 to 10; for each zone the number of its bands, for each of them bandAt() "
            + "0 and 1, then its extra price; rules(); parcels(); for each parcel parcel() 0 to 10, "
            + "and why() as long as it is not NONE; notes(); for each note note() 0 to 5; sum() 0 to "
            + "4.");
        long empty = 191;
        int[] numbers = {0, 0, 10, 30000, 10, 5, 5000, 100, 0, 0, 0, 0, 0, 0, 0, 0, 0, 0, 0, 0, 100, 0,
            100, 0, 100, 0, 100, 0, 0, 0, 0, 0, 0, 0, 0};
        for (int number : numbers) {
            empty = 31 * empty + number;
        }
        Desks.due("of a new desk", new ParcelDesk().fingerprint(), empty);
        Desks.says("Returns the fingerprint.");
        Desks.Setup[] desks = {Desks::fresh, Desks::few, Desks::fine, Desks::one, Desks::busy,
            Desks::ready, Desks::full};
        for (Desks.Setup desk : desks) {
            Desks.due("in its order", Desks.make(desk).fingerprint(), print(desk));
        }
    }
}
