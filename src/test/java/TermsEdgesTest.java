import java.io.IOException;

/** For each sentence of the document's 'Terms' that names an edge: both of its sides. */
public final class TermsEdgesTest {
    private static final int BAD = Desks.BAD;
    private static final int STATE = Desks.STATE;
    private static final int FULL = Desks.FULL;
    private static final int NONE = Desks.NONE;
    private static final int[] LOWEST = {-20, -20, 1, 1000, 0, 0, 1000, 1};
    private static final int[] HIGHEST = {20, 20, 100, 70000, 100, 200, 9999, 1000};

    public static void main(String[] args) throws IOException {
        Desks.section("What it is");
        calls();
        Desks.section("Terms");
        divisions();
        scaleLimits();
        rawReading();
        grossWeight();
        netWeight();
        tickTime();
        tracking();
        trackingCount();
        steady();
        over();
        parcels();
        centimeters();
        billed();
        girth();
        bands();
        base();
        noBands();
        rules();
        changes();
        asTheyAre();
        buffer();
        texts();
        conditions();
        comparisons();
        numbers();
        errorPlace();
        notes();
        claims();
        openNotes();
        accepted();
        history();
        acts();
        refused();
        firstError();
        constants();
        Desks.end("What it is|Terms");
    }

    // ---- what it is

    private static void calls() {
        Desks.namesNoEdge("A parcel desk: a scale that drifts, is zeroed, tracks its zero, tares and "
            + "waits until it is steady; parcels with real and dimensional weights, of which the "
            + "greater one counts; bands of prices by zones, rules with conditions as texts; charges "
            + "with reasons, disputes that are accepted or rejected, and what would make a parcel "
            + "cheaper.");
        Desks.says("An object is used for at most 512 calls after it has been made; what later calls "
            + "answer is free.");
        ParcelDesk d = new ParcelDesk();
        d.set(0, -20);
        for (int i = 2; i < 512; i++) {
            Desks.due("tick(100)", d.tick(100), -2000 * (i - 1));
        }
        Desks.due("the 512th call", d.undo(), 3);
        d = new ParcelDesk();
        d.set(0, 20);
        for (int i = 2; i < 512; i++) {
            d.tick(100);
        }
        Desks.due("the 512th call", d.scale(6), 1020000);
        d = new ParcelDesk();
        d.set(0, 20);
        for (int i = 2; i < 512; i++) {
            d.tick(100);
        }
        Desks.due("the 512th call", d.tick(100), 1022000);
    }

    // ---- the scale

    private static int raw(int load, int span) {
        ParcelDesk d = new ParcelDesk();
        d.set(1, span);
        d.load(load);
        return d.scale(1);
    }

    private static void divisions() {
        Desks.namesNoEdge("THE SCALE.");
        Desks.says("Weights are in grams, whole numbers; divisions are rounded down (toward minus "
            + "infinity) unless something else is said.");
        Desks.due("999 by 1001", raw(999, 1), 999);
        Desks.due("1000 by 1001", raw(1000, 1), 1001);
        Desks.due("1 by 999", raw(1, -1), 0);
        Desks.due("1001 by 980", raw(1001, -20), 980);
        ParcelDesk d = Desks.make(Desks::fine);
        Desks.rule(d, "w>0?*999");
        Desks.due("1000 * 999 / 1000", d.quote(1, 1, 1, 1, 0), 999);
        Desks.rule(d, "w>0?*999");
        Desks.due("999 * 999 / 1000", d.quote(1, 1, 1, 1, 0), 998);
    }

    private static void scaleLimits() {
        Desks.says("On the scale lies a load, 0 to 100000 (0 at first).");
        Desks.due("the load at first", new ParcelDesk().scale(10), 0);
        Desks.range("load", 0, 100000, Desks::busy, (d, load) -> d.load(load));
        for (int load : new int[] {0, 1, 99999, 100000}) {
            ParcelDesk d = new ParcelDesk();
            d.load(load);
            Desks.due("the load lies there", d.scale(10), load);
        }

        Desks.says("Settings with their ranges and initial values: 0 the drift, -20 to 20 (0); 1 the "
            + "span error, -20 to 20 (0); 2 the step, 1 to 100 (10); 3 the capacity, 1000 to 70000 "
            + "(30000); 4 the steady band, 0 to 100 (10); 5 the tracking band, 0 to 200 (5); 6 the "
            + "divisor, 1000 to 9999 (5000); 7 the unit, 1 to 1000 (100).");
        int[] initial = {0, 0, 10, 30000, 10, 5, 5000, 100};
        for (int i = 0; i < 8; i++) {
            int setting = i;
            Desks.due("setting " + i + " at first", new ParcelDesk().setting(i), initial[i]);
            Desks.range("setting " + i + " to", LOWEST[i], HIGHEST[i], Desks::busy,
                (d, value) -> d.set(setting, value));
        }

        Desks.says("The scale has an offset, a zero, a tare (all 0 at first) and a tracking count (0).");
        ParcelDesk d = new ParcelDesk();
        Desks.due("the offset", d.scale(6), 0);
        Desks.due("the zero", d.scale(4), 0);
        Desks.due("the tare", d.scale(5), 0);
        Desks.due("the tracking count", d.scale(9), 0);
    }

    private static void rawReading() {
        Desks.says("Its raw reading is load * (1000 + span error) / 1000 + offset.");
        Desks.due("the greatest load and span error", raw(100000, 20), 102000);
        Desks.due("the greatest load, the least span error", raw(100000, -20), 98000);
        Desks.due("nothing, by a span error", raw(0, 20), 0);
        Desks.due("1 by 1020", raw(1, 20), 1);
        Desks.due("50 by 1020", raw(50, 20), 51);
        Desks.due("49 by 1020", raw(49, 20), 49);
        ParcelDesk d = new ParcelDesk();
        d.set(5, 0);
        d.set(0, -20);
        d.tick(100);
        Desks.due("below 0", d.scale(1), -2000);
        d.set(1, -20);
        Desks.due("the span error is not of the offset", d.scale(1), -2000);
        d.load(1999);
        Desks.due("the offset comes behind the division", d.scale(1), 1959 - 2000);
    }

    /** The gross weight where the raw reading is this many grams above or below the zero. */
    private static int gross(int step, int grams) {
        ParcelDesk d = new ParcelDesk();
        d.set(2, step);
        d.set(5, 0);
        if (grams >= 0) {
            d.load(grams);
        } else {
            d.set(0, -1);
            d.tick(Math.min(-grams, 100));
            d.tick(Math.max(-grams - 100, 1));
            d.load(grams < -100 ? 0 : 1);
        }
        Desks.due("the raw reading", d.scale(1), grams);
        return d.scale(2);
    }

    private static void grossWeight() {
        Desks.says("The gross weight is the multiple of the step that is nearest to the raw reading "
            + "minus the zero, of two the greater one.");
        int[] of10 = {0, 0, 4, 0, 5, 10, 6, 10, 10, 10, 14, 10, 15, 20, 16, 20, 99994, 99990,
            99995, 100000, 100000, 100000, -1, 0, -4, 0, -5, 0, -6, -10, -10, -10, -14, -10, -15,
            -10, -16, -20};
        for (int i = 0; i < of10.length; i += 2) {
            Desks.due(of10[i] + " by 10", gross(10, of10[i]), of10[i + 1]);
        }
        int[] of1 = {0, 1, 2, 99999, 100000, -1, -2, -199};
        for (int grams : of1) {
            Desks.due(grams + " by 1", gross(1, grams), grams);
        }
        Desks.due("1 by 2", gross(2, 1), 2);
        Desks.due("3 by 2", gross(2, 3), 4);
        Desks.due("-1 by 2", gross(2, -1), 0);
        Desks.due("-3 by 2", gross(2, -3), -2);
        Desks.due("1 by 3", gross(3, 1), 0);
        Desks.due("2 by 3", gross(3, 2), 3);
        Desks.due("-1 by 3", gross(3, -1), 0);
        Desks.due("-2 by 3", gross(3, -2), -3);
        Desks.due("49 by 99", gross(99, 49), 0);
        Desks.due("50 by 99", gross(99, 50), 99);
        Desks.due("49 by 100", gross(100, 49), 0);
        Desks.due("50 by 100", gross(100, 50), 100);
        Desks.due("149 by 100", gross(100, 149), 100);
        Desks.due("150 by 100", gross(100, 150), 200);
        Desks.due("-50 by 100", gross(100, -50), 0);
        Desks.due("-51 by 100", gross(100, -51), -100);
        Desks.due("-150 by 100", gross(100, -150), -100);
        Desks.due("-151 by 100", gross(100, -151), -200);
        ParcelDesk d = new ParcelDesk();
        d.set(5, 0);
        Desks.weigh(d, 7);
        d.zero();
        d.load(11);
        Desks.due("11 minus a zero of 7", d.scale(2), 0);
        d.load(12);
        Desks.due("12 minus a zero of 7", d.scale(2), 10);
        d.load(2);
        Desks.due("2 minus a zero of 7", d.scale(2), 0);
        d.load(1);
        Desks.due("1 minus a zero of 7", d.scale(2), -10);
    }

    private static void netWeight() {
        Desks.says("The net weight is the gross weight minus the tare.");
        ParcelDesk d = new ParcelDesk();
        Desks.weigh(d, 503);
        Desks.due("without a tare", d.scale(3), 500);
        d.tare();
        Desks.due("nothing is left", d.scale(3), 0);
        d.load(504);
        Desks.due("of the gross weight", d.scale(3), 0);
        d.load(505);
        Desks.due("of the gross weight", d.scale(3), 10);
        d.load(0);
        Desks.due("below 0", d.scale(3), -500);
        d.set(2, 7);
        Desks.due("the tare stays as it was made", d.scale(3), -500);
        d.load(505);
        Desks.due("the step as it is now", d.scale(3), 504 - 500);
    }

    private static void tickTime() {
        Desks.says("A TICK: the time grows by 1 (0 at first), the offset by the drift; then the raw "
            + "reading is put down as the latest one; then, if the absolute value of the raw reading "
            + "minus the zero is at most the tracking band, the tracking count grows by 1, otherwise "
            + "it is 0; if it is 3 then, the zero becomes the raw reading, and the count 0 (nothing "
            + "but a tick changes the count).");
        ParcelDesk d = new ParcelDesk();
        Desks.due("the time at first", d.scale(0), 0);
        d.tick(1);
        Desks.due("a tick", d.scale(0), 1);
        d.tick(100);
        Desks.due("a hundred ticks", d.scale(0), 101);
        d.load(7);
        Desks.due("no tick", d.scale(0), 101);
        for (int drift : new int[] {-20, -1, 0, 1, 20}) {
            d = new ParcelDesk();
            d.set(0, drift);
            Desks.due("no tick yet", d.scale(6), 0);
            d.tick(1);
            Desks.due("the offset", d.scale(6), drift);
            d.tick(100);
            Desks.due("the offset", d.scale(6), 101 * drift);
        }
        d = new ParcelDesk();
        d.set(4, 0);
        d.set(0, 20);
        d.tick(1);
        d.set(0, 0);
        d.tick(2);
        Desks.due("the reading of the first tick has its drift", d.scale(7), 1);
        d.set(0, 20);
        Desks.due("no tick", d.scale(7), 1);
        d.tick(1);
        Desks.due("the reading of the latest tick has its drift", d.scale(7), 0);
    }

    /** The tracking count behind a tick with the raw reading so far from a zero of 100. */
    private static int counted(int band, int grams) {
        ParcelDesk d = new ParcelDesk();
        d.set(5, 0);
        Desks.weigh(d, 100);
        d.zero();
        d.set(5, band);
        if (grams < -100) {
            d.load(0);
            d.set(5, 0);
            d.set(0, -1);
            d.tick(-grams - 101);
            d.set(5, band);
        } else {
            d.load(100 + grams);
        }
        d.tick(1);
        Desks.due("so far from the zero", d.scale(1) - 100, grams);
        return d.scale(9);
    }

    private static void tracking() {
        int[] bands = {0, 1, 5, 199, 200};
        for (int band : bands) {
            Desks.due(band + " above", counted(band, band), 1);
            Desks.due(band + " and 1 above", counted(band, band + 1), 0);
            Desks.due(band + " below", counted(band, -band), 1);
            Desks.due(band + " and 1 below", counted(band, -band - 1), 0);
        }
        ParcelDesk d = new ParcelDesk();
        d.set(0, 2);
        d.set(5, 200);
        int[] zeros = {0, 0, 6, 6, 6, 12, 12};
        int[] counts = {1, 2, 0, 1, 2, 0, 1};
        for (int i = 0; i < zeros.length; i++) {
            d.tick(1);
            Desks.due("the zero at tick " + i, d.scale(4), zeros[i]);
            Desks.due("the count at tick " + i, d.scale(9), counts[i]);
        }
        d = new ParcelDesk();
        d.set(0, 2);
        d.set(5, 200);
        d.tick(100);
        Desks.due("the zero at tick 99", d.scale(4), 198);
        Desks.due("the count at tick 100", d.scale(9), 1);
        d = new ParcelDesk();
        d.set(0, -2);
        d.tick(2);
        Desks.due("4 below", d.scale(9), 2);
        d.tick(1);
        Desks.due("6 below: the row is broken", d.scale(9), 0);
        Desks.due("the zero stays", d.scale(4), 0);
        d.set(5, 6);
        d.set(0, 0);
        d.tick(2);
        Desks.due("a row anew", d.scale(4), 0);
        d.tick(1);
        Desks.due("the zero goes below 0", d.scale(4), -6);
    }

    private static void trackingCount() {
        ParcelDesk d = Desks.make(Desks::fine);
        d.set(5, 200);
        Desks.weigh(d, 100);
        Desks.due("the zero is tracked", d.scale(4), 100);
        d.load(150);
        d.tick(2);
        d.load(160);
        Desks.due("load()", d.scale(9), 2);
        d.set(5, 0);
        Desks.due("a setting", d.scale(9), 2);
        d.set(0, 5);
        Desks.due("a setting", d.scale(9), 2);
        d.undo();
        Desks.due("undo() of a setting", d.scale(9), 2);
        d = Desks.make(Desks::fine);
        Desks.weigh(d, 900);
        d.set(3, 70000);
        d.set(5, 200);
        d.zero();
        d.load(1000);
        d.tick(2);
        d.load(1000);
        d.set(5, 0);
        d.tick(3);
        Desks.due("broken", d.scale(9), 0);
        d.set(5, 200);
        d.tick(2);
        Desks.due("steady, with a count", d.scale(7) * 10 + d.scale(9), 12);
        d.tare();
        Desks.due("tare()", d.scale(9), 2);
        Desks.due("zero()", d.zero(), 900);
        Desks.due("zero()", d.scale(9), 2);
        d.tick(1);
        Desks.due("the third one", d.scale(9), 0);
        Desks.due("the third one", d.scale(4), 1000);
        d.tick(2);
        d.load(5000);
        d.tick(1);
        Desks.due("far above", d.scale(9), 0);
        d.set(5, 0);
        d.set(0, 1);
        d.tick(2);
        d.set(0, 0);
        Desks.due("take()", d.take(1, 1, 1, 0), 0);
        d.undo();
        d.set(5, 200);
        Desks.weigh(d, 1100);
        Desks.due("tracked again", d.scale(4), 1102);
        d.tick(1);
        d.load(1150);
        d.tick(1);
        Desks.due("with another load", d.scale(9), 2);
        d.tick(1);
        Desks.due("the reading then", d.scale(4), 1152);
    }

    /** Whether the scale is steady behind ticks with these drifts. */
    private static int steadyBehind(int band, int... drifts) {
        ParcelDesk d = new ParcelDesk();
        d.set(4, band);
        for (int drift : drifts) {
            d.set(0, drift);
            d.tick(1);
        }
        return d.scale(7);
    }

    private static void steady() {
        Desks.says("The scale is STEADY if the raw readings of the latest 3 ticks (there must be so "
            + "many since the latest load(), or since the beginning) differ by at most the steady "
            + "band, the greatest one from the smallest one.");
        Desks.due("no tick", steadyBehind(100), 0);
        Desks.due("one tick", steadyBehind(100, 0), 0);
        Desks.due("two ticks", steadyBehind(100, 0, 0), 0);
        Desks.due("three ticks", steadyBehind(100, 0, 0, 0), 1);
        Desks.due("a band of 0", steadyBehind(0, 20, 0, 0), 1);
        Desks.due("a band of 0", steadyBehind(0, 0, 0, 1), 0);
        Desks.due("a band of 0", steadyBehind(0, 0, -1, 0), 0);
        Desks.due("upward, within", steadyBehind(10, 0, 5, 5), 1);
        Desks.due("upward, beyond", steadyBehind(10, 0, 5, 6), 0);
        Desks.due("upward, beyond", steadyBehind(10, 0, 6, 5), 0);
        Desks.due("downward, within", steadyBehind(10, 0, -5, -5), 1);
        Desks.due("downward, beyond", steadyBehind(10, 0, -5, -6), 0);
        Desks.due("the middle one the greatest, within", steadyBehind(10, 0, 10, -3), 1);
        Desks.due("the middle one the greatest, beyond the first", steadyBehind(10, 0, 11, -3), 0);
        Desks.due("the middle one the greatest, beyond the last", steadyBehind(10, 0, 3, -11), 0);
        Desks.due("the middle one the smallest, within", steadyBehind(10, 0, -10, 3), 1);
        Desks.due("the middle one the smallest, beyond the first", steadyBehind(10, 0, -11, 3), 0);
        Desks.due("the middle one the smallest, beyond the last", steadyBehind(10, 0, -3, 11), 0);
        Desks.due("the fourth one does not count", steadyBehind(10, 0, 20, 0, 0), 1);
        Desks.due("the third one does", steadyBehind(10, 0, 0, 20, 0), 0);
        ParcelDesk d = new ParcelDesk();
        d.set(0, 20);
        d.set(4, 40);
        d.tick(100);
        Desks.due("40 among a hundred ticks", d.scale(7), 1);
        d.set(4, 39);
        Desks.due("the band as it is now", d.scale(7), 0);
        d.set(0, 0);
        d.set(4, 100);
        d.load(50000);
        d.load(0);
        Desks.due("since the latest load()", d.scale(7), 0);
        d.tick(2);
        Desks.due("two ticks since", d.scale(7), 0);
        d.tick(1);
        Desks.due("three ticks since", d.scale(7), 1);
        d.set(1, 20);
        d.load(100000);
        d.tick(3);
        d.set(1, -20);
        Desks.due("readings stay as they were put down", d.scale(7), 1);
        d.tick(1);
        Desks.due("the next one is another one", d.scale(7), 0);
    }

    private static void over() {
        Desks.says("It is OVER if the raw reading minus the zero is greater than the capacity.");
        for (int capacity : new int[] {1000, 70000}) {
            ParcelDesk d = new ParcelDesk();
            d.set(3, capacity);
            d.load(capacity);
            Desks.due("at the capacity", d.scale(8), 0);
            d.load(capacity + 1);
            Desks.due("a gram above it", d.scale(8), 1);
            d.load(0);
            Desks.due("empty", d.scale(8), 0);
        }
        ParcelDesk d = new ParcelDesk();
        d.set(3, 1000);
        d.set(2, 100);
        d.set(5, 0);
        Desks.weigh(d, 50);
        d.zero();
        d.load(1050);
        Desks.due("above the zero just the capacity", d.scale(8), 0);
        d.load(1051);
        Desks.due("the raw reading counts, not the gross weight", d.scale(8), 1);
        Desks.due("the gross weight", d.scale(2), 1000);
        d.set(1, -20);
        Desks.due("the raw reading counts, not the load", d.scale(8), 0);
        d.load(0);
        d.set(0, -20);
        d.tick(100);
        Desks.due("far below the zero", d.scale(8), 0);
    }

    // ---- parcels

    private static void parcels() {
        Desks.namesNoEdge("PARCELS.");
        Desks.says("There are at most 30 parcels, numbered from 0.");
        ParcelDesk d = Desks.make(Desks::fine);
        Desks.weigh(d, 500);
        for (int i = 0; i < 30; i++) {
            Desks.due("no parcel yet", d.parcel(i, 1), BAD);
            Desks.due("its number", d.take(100 + i, 1, 1, i % 4), i);
        }
        for (int i = 0; i < 30; i++) {
            Desks.due("a parcel of its own", d.parcel(i, 1), 100 + i);
        }
        Desks.due("no parcel 30", d.parcel(30, 0), BAD);
        Desks.leaves("one more", FULL, Desks::full, f -> f.take(1, 1, 1, 0));
        Desks.due("undone", d.undo(), 3);
        Desks.due("room again", d.take(7, 1, 1, 0), 29);

        Desks.says("A parcel has a real weight, three sides from 1 to 2000 (millimeters), and a zone, "
            + "0 to 3.");
        Desks.range("side a", 1, 2000, Desks::one, (p, side) -> p.take(side, 1, 1, 0));
        Desks.range("side b", 1, 2000, Desks::one, (p, side) -> p.take(1, side, 1, 0));
        Desks.range("side c", 1, 2000, Desks::one, (p, side) -> p.take(1, 1, side, 0));
        Desks.range("zone", 0, 3, Desks::one, (p, zone) -> p.take(1, 1, 1, zone));
    }

    private static int dimensional(int divisor, int a, int b, int c) {
        ParcelDesk d = Desks.make(Desks::one);
        d.set(6, divisor);
        d.take(a, b, c, 0);
        return d.parcel(1, 5);
    }

    private static void centimeters() {
        Desks.says("Each side counts as so many centimeters, each begun one whole; the volume is the "
            + "product of the three; the dimensional weight is volume * 1000 / divisor, rounded up.");
        int[] sides = {1, 1, 9, 1, 10, 1, 11, 2, 19, 2, 20, 2, 21, 3, 1989, 199, 1990, 199, 1991, 200,
            1999, 200, 2000, 200};
        for (int i = 0; i < sides.length; i += 2) {
            int side = sides[i];
            Desks.due("a of " + side, dimensional(1000, side, 1, 1), sides[i + 1]);
            Desks.due("b of " + side, dimensional(1000, 1, side, 1), sides[i + 1]);
            Desks.due("c of " + side, dimensional(1000, 1, 1, side), sides[i + 1]);
        }
        Desks.due("3 by 5 by 7", dimensional(1000, 21, 50, 61), 105);
        Desks.due("the greatest", dimensional(1000, 2000, 2000, 2000), 8000000);
        Desks.due("the greatest by 9999", dimensional(9999, 2000, 2000, 2000), 800081);
        Desks.due("1 by 9999", dimensional(9999, 1, 1, 1), 1);
        Desks.due("9 by 9999", dimensional(9999, 90, 1, 1), 1);
        Desks.due("10 by 9999", dimensional(9999, 91, 1, 1), 2);
        Desks.due("9999 by 9999, just", dimensional(9999, 990, 1010, 1), 1000);
        Desks.due("10000 by 9999", dimensional(9999, 1000, 1000, 1), 1001);
        Desks.due("9998 by 9999", dimensional(9999, 20, 1, 1), 1);
        Desks.due("2 by 2000, just", dimensional(2000, 20, 1, 1), 1);
        Desks.due("2 by 1999", dimensional(1999, 20, 1, 1), 2);
    }

    private static int billed(int unit, int divisor, int real, int side) {
        ParcelDesk d = Desks.make(Desks::fine);
        d.set(3, 70000);
        d.set(7, unit);
        d.set(6, divisor);
        Desks.take(d, real, side, side, side, 0);
        return d.parcel(0, 6);
    }

    private static void billed() {
        Desks.says("The BILLED weight is the greater one of both weights, rounded up to a multiple of "
            + "the unit.");
        Desks.due("1 by 1", billed(1, 1000, 1, 10), 1);
        Desks.due("2 by 1", billed(1, 1000, 2, 10), 2);
        Desks.due("the same", billed(1, 1000, 8, 20), 8);
        Desks.due("the real one greater", billed(1, 1000, 9, 20), 9);
        Desks.due("the dimensional one greater", billed(1, 1000, 7, 20), 8);
        Desks.due("1 by 1000", billed(1000, 1000, 1, 10), 1000);
        Desks.due("999 by 1000", billed(1000, 1000, 999, 10), 1000);
        Desks.due("1000 by 1000", billed(1000, 1000, 1000, 10), 1000);
        Desks.due("1001 by 1000", billed(1000, 1000, 1001, 10), 2000);
        Desks.due("the dimensional one by 1000", billed(1000, 1000, 1, 100), 1000);
        Desks.due("the dimensional one by 1000", billed(1000, 1000, 1, 101), 2000);
        Desks.due("70000 by 999", billed(999, 1000, 70000, 10), 70929);
        Desks.due("8000000 by 999", billed(999, 1000, 1, 2000), 8000991);
        Desks.due("8000000 by 1000", billed(1000, 1000, 1, 2000), 8000000);
    }

    private static int girth(int a, int b, int c) {
        ParcelDesk d = Desks.make(Desks::one);
        d.take(a, b, c, 0);
        return d.parcel(1, 9);
    }

    private static void girth() {
        Desks.says("The girth is the longest side plus twice the sum of the other two, in "
            + "millimeters.");
        Desks.due("the least", girth(1, 1, 1), 5);
        Desks.due("the greatest", girth(2000, 2000, 2000), 10000);
        Desks.due("a", girth(31, 20, 11), 31 + 62);
        Desks.due("b", girth(20, 31, 11), 31 + 62);
        Desks.due("c", girth(11, 20, 31), 31 + 62);
        Desks.due("a and b", girth(31, 31, 11), 31 + 84);
        Desks.due("b and c", girth(11, 31, 31), 31 + 84);
        Desks.due("a and c", girth(31, 11, 31), 31 + 84);
        Desks.due("by a millimeter", girth(31, 32, 31), 32 + 124);
    }

    // ---- bands

    private static void bands() {
        Desks.namesNoEdge("BANDS.");
        Desks.says("Each zone has at most 6 bands, in ascending order of their limits (1 to 100000), "
            + "each with a price (0 to 100000), and an extra price, 0 to 10000 (100 at first).");
        ParcelDesk d = new ParcelDesk();
        for (int zone = 0; zone < 4; zone++) {
            for (int i = 6; i >= 1; i--) {
                Desks.due("ahead of those that there are", d.band(zone, 100 * i, i + zone), 0);
            }
            for (int i = 0; i < 6; i++) {
                Desks.due("limit " + i, d.bandAt(zone, i, 0), 100 * i + 100);
                Desks.due("price " + i, d.bandAt(zone, i, 1), i + 1 + zone);
            }
            int full = zone;
            Desks.leaves("a seventh one", FULL, Desks::full, f -> f.band(full, 99999, 1));
            Desks.leaves("a seventh one", FULL, Desks::full, f -> f.band(full, 1, 1));
            Desks.leaves("a seventh one", FULL, Desks::full, f -> f.band(full, 401, 1));
            Desks.acts("the price of one of six", 5, Desks::full, f -> f.band(full, 2400, 1));
            Desks.acts("the price of one of six", 0, Desks::full, f -> f.band(full, 400, 1));
        }
        d.unband(2, 3);
        Desks.due("room again", d.band(2, 650, 1), 5);
        Desks.range("limit", 1, 100000, Desks::busy, (b, limit) -> b.band(3, limit, 5));
        Desks.range("price", 0, 100000, Desks::busy, (b, price) -> b.band(3, 5, price));
        for (int zone = 0; zone < 4; zone++) {
            int of = zone;
            Desks.due("the extra price at first", new ParcelDesk().setExtra(zone, 1), 100);
            Desks.range("extra price", 0, 10000, Desks::busy, (b, extra) -> b.setExtra(of, extra));
        }
    }

    private static void base() {
        Desks.says("The base of a charge is the price of the first band whose limit is at least the "
            + "billed weight; if there is none, the price of the last band plus the extra price for "
            + "each begun 1000 grams by which the billed weight is greater than its limit.");
        ParcelDesk d = new ParcelDesk();
        d.set(7, 1);
        d.band(0, 1, 10);
        d.band(0, 500, 20);
        d.band(0, 1500, 30);
        int[] weights = {1, 10, 2, 20, 499, 20, 500, 20, 501, 30, 1499, 30, 1500, 30, 1501, 130, 2499,
            130, 2500, 130, 2501, 230, 3500, 230, 3501, 330, 99500, 30 + 9800, 99501, 30 + 9900,
            100000, 30 + 9900};
        for (int i = 0; i < weights.length; i += 2) {
            Desks.due("of " + weights[i], d.quote(weights[i], 1, 1, 1, 0), weights[i + 1]);
        }
        d.setExtra(0, 0);
        Desks.due("no extra price", d.quote(1501, 1, 1, 1, 0), 30);
        d.setExtra(0, 10000);
        Desks.due("the greatest extra price", d.quote(1501, 1, 1, 1, 0), 10030);
        d.set(7, 1000);
        Desks.due("the billed weight counts", d.quote(1, 1, 1, 1, 0), 30);
        Desks.due("the billed weight counts", d.quote(1001, 1, 1, 1, 0), 10030);
        d.band(1, 100000, 100000);
        Desks.due("the greatest limit and price", d.quote(100000, 1, 1, 1, 1), 100000);
        d.set(6, 1000);
        Desks.due("the dimensional weight", d.quote(1, 2000, 2000, 2000, 1), 100000 + 7900 * 100);
        d.band(2, 1, 0);
        Desks.due("the least limit and price", d.quote(1, 2000, 2000, 2000, 2), 8000 * 100);
    }

    private static void noBands() {
        Desks.says("A zone without bands takes no parcels.");
        Desks.leaves("without bands", STATE, Desks::ready, d -> d.take(1, 1, 1, 3));
        Desks.due("with one band", Desks.make(Desks::ready).take(1, 1, 1, 2), 2);
        Desks.Setup unbanded = d -> {
            Desks.ready(d);
            d.unband(2, 0);
        };
        Desks.leaves("without its last band", STATE, unbanded, d -> d.take(1, 1, 1, 2));
        Desks.due("undone", Desks.make(d -> {
            unbanded.on(d);
            d.undo();
        }).take(1, 1, 1, 2), 2);
    }

    // ---- rules

    private static void rules() {
        Desks.namesNoEdge("RULES.");
        Desks.says("There are at most 8 rules, applied one after the other.");
        ParcelDesk d = Desks.make(Desks::fine);
        for (int i = 1; i <= 8; i++) {
            Desks.due("rule " + i, Desks.rule(d, "w>0?+" + i), i);
        }
        Desks.due("all of them", d.quote(1, 1, 1, 1, 0), 1036);
        Desks.leaves("a ninth one", FULL, f -> {
            Desks.full(f);
            Desks.write(f, "w>0?+9");
        }, f -> f.rule());
        d.unrule();
        Desks.due("room again", Desks.rule(d, "w>0?*2000"), 8);
        Desks.due("the last one is the last one", d.quote(1, 1, 1, 1, 0), 2 * 1028);
        for (int i = 0; i < 8; i++) {
            d.unrule();
        }
        Desks.rule(d, "w>0?*2000");
        Desks.rule(d, "w>0?+1");
        Desks.due("in their order", d.quote(1, 1, 1, 1, 0), 2001);
        Desks.namesNoEdge("A rule has a condition and a change.");
    }

    private static int changed(int base, String... changes) {
        ParcelDesk d = new ParcelDesk();
        d.band(0, 100000, base);
        for (String change : changes) {
            Desks.rule(d, "w>0?" + change);
        }
        return d.quote(1, 1, 1, 1, 0);
    }

    private static void changes() {
        Desks.says("If the condition holds, a change \"+\" n adds n to the charge, \"-\" n subtracts n, "
            + "\"*\" n makes it charge * n / 1000; a charge below 0 becomes 0, one above 1000000000 "
            + "becomes 1000000000 (after each rule).");
        Desks.due("+0", changed(7, "+0"), 7);
        Desks.due("+1", changed(7, "+1"), 8);
        Desks.due("+99999", changed(100000, "+99999"), 199999);
        Desks.due("-0", changed(7, "-0"), 7);
        Desks.due("to 1", changed(7, "-6"), 1);
        Desks.due("to 0", changed(7, "-7"), 0);
        Desks.due("below 0", changed(7, "-8"), 0);
        Desks.due("far below 0", changed(7, "-99999"), 0);
        Desks.due("0, and less", changed(0, "-1"), 0);
        Desks.due("after each rule", changed(7, "-99999", "+3"), 3);
        Desks.due("*0", changed(7, "*0"), 0);
        Desks.due("*1", changed(999, "*1"), 0);
        Desks.due("*1", changed(1000, "*1"), 1);
        Desks.due("*999", changed(1, "*999"), 0);
        Desks.due("*1000", changed(1, "*1000"), 1);
        Desks.due("*1001", changed(999, "*1001"), 999);
        Desks.due("*1001", changed(1000, "*1001"), 1001);
        Desks.due("*99999", changed(100000, "*99999"), 9999900);
        Desks.due("0, and more", changed(0, "*99999"), 0);
        String[] up = {"*99999", "*99999", "+19999", "+0"};
        Desks.due("just below 1000000000", changed(100000, up), 999999999);
        up[3] = "+1";
        Desks.due("1000000000", changed(100000, up), 1000000000);
        up[3] = "+2";
        Desks.due("a bit above", changed(100000, up), 1000000000);
        Desks.due("a bit above, and less", changed(100000, "*99999", "*99999", "+99999", "-1"),
            999999999);
        Desks.due("far above", changed(100000, "*99999", "*99999", "*99999"), 1000000000);
        Desks.due("far above, and again", changed(100000, "*99999", "*99999", "*99999", "*99999"),
            1000000000);
        Desks.due("far above, and less", changed(100000, "*99999", "*99999", "*99999", "*1"), 1000000);
        ParcelDesk d = Desks.make(Desks::fine);
        Desks.rule(d, "w>1?+5");
        Desks.due("it does not hold", d.quote(1, 1, 1, 1, 0), 1000);
        Desks.due("it holds", d.quote(2, 1, 1, 1, 0), 1005);
    }

    private static void asTheyAre() {
        Desks.says("The settings, bands and rules as they are when a charge is worked out count; a "
            + "charge stays when they change.");
        ParcelDesk d = Desks.make(Desks::one);
        Desks.rule(d, "r>1?+7");
        d.take(30, 20, 10, 0);
        Desks.due("a rule more", d.parcel(0, 8), 1000);
        Desks.due("a rule more", d.parcel(1, 8), 1007);
        d.unrule();
        d.band(0, 950, 20);
        d.take(30, 20, 10, 0);
        Desks.due("a rule less", d.parcel(1, 8), 1007);
        Desks.due("another band", d.parcel(2, 8), 20);
        d.set(7, 1000);
        d.take(30, 20, 10, 0);
        Desks.due("another unit", d.parcel(2, 8), 20);
        Desks.due("another unit", d.parcel(3, 8), 1000);
        d.unband(0, 0);
        d.unband(0, 0);
        Desks.due("no bands", d.parcel(0, 8) + d.parcel(1, 8) + d.parcel(2, 8), 2027);
        d.band(0, 100, 1);
        Desks.due("an extra price", d.quote(1, 1, 1, 1, 0), 101);
        d.setExtra(0, 5);
        Desks.due("another extra price", d.quote(1, 1, 1, 1, 0), 6);
        Desks.due("all stay", d.sum(0), 3027);
    }

    // ---- texts

    private static void buffer() {
        Desks.namesNoEdge("TEXTS.");
        Desks.says("There is a buffer of at most 60 characters with codes from 32 to 126, initially "
            + "empty.");
        Desks.due("empty at first", new ParcelDesk().clear(), 0);
        Desks.range("code", 32, 126, Desks::busy, (d, c) -> d.type(c));
        Desks.leaves("code 127 by its low bits", BAD, Desks::busy, d -> d.type(256 + 'w'));
        ParcelDesk d = new ParcelDesk();
        for (int i = 1; i <= 60; i++) {
            Desks.due("character " + i, d.type(31 + i), i);
        }
        for (int c : new int[] {32, 126, '?'}) {
            Desks.leaves("one more", FULL, Desks::full, f -> f.type(c));
        }
        Desks.due("it has 60 then", d.clear(), 60);
        Desks.due("room again", d.type(126), 1);
    }

    /** Behind the start of a text just these characters of all codes can stand. */
    private static void stands(String start, String allowed) {
        for (int c = 32; c <= 126; c++) {
            ParcelDesk d = Desks.make(Desks::fine);
            String text = start + (char) c;
            int got = Desks.rule(d, text);
            boolean can = allowed.indexOf(c) >= 0;
            boolean whole = can && text.matches("[^?]*\\?[-+*][0-9]+");
            Desks.due("rule() of " + text, got,
                whole ? 1 : -100 - (can ? text.length() : start.length()));
            Desks.due("what is left of " + text, d.clear(), whole ? 0 : text.length());
        }
    }

    private static void texts() {
        Desks.says("The text of a rule is a condition, \"?\", \"+\", \"-\" or \"*\", and a number.");
        stands("w<1?", "+-*");
        stands("(w<1)?", "+-*");
        for (String change : new String[] {"+", "-", "*"}) {
            stands("w<1?" + change, "0123456789");
            stands("w<1?" + change + "0", "0123456789");
            stands("w<1?" + change + "9999", "0123456789");
            stands("w<1?" + change + "00000", "");
        }
    }

    private static void conditions() {
        Desks.says("A condition is one or more parts with \"|\" between them (it holds if one of them "
            + "does); a part is one or more terms with \"&\" between them (it holds if all do); a term "
            + "is \"~\" and a term (it holds if that does not), \"(\" and a condition and \")\", or a "
            + "comparison: one of the letters w (billed weight), r (real weight), v (dimensional "
            + "weight), g (girth), l (longest side), z (zone), then \"<\", \"=\" or \">\", then a "
            + "number.");
        String term = "~(wrvglz";
        String[] atTerm = {"", "~", "~~", "(", "((", "~(", "(~", "w<1&", "w<1|", "(w<1&", "(w<1|",
            "(w<1)&", "(w<1)|", "w<1&~", "w<1|(", "(".repeat(58), "~".repeat(58)};
        for (String start : atTerm) {
            stands(start, term);
        }
        for (char letter : "wrvglz".toCharArray()) {
            stands("" + letter, "<=>");
            stands("(" + letter, "<=>");
            for (char relation : "<=>".toCharArray()) {
                stands("" + letter + relation, "0123456789");
            }
        }
        stands("w<1", "0123456789&|?");
        stands("~w<1", "0123456789&|?");
        stands("w<1&w=1", "0123456789&|?");
        stands("(w<1", "0123456789&|)");
        stands("((w<1", "0123456789&|)");
        stands("((w<1)", "&|)");
        stands("(w<1)", "&|?");
        stands("((w<1))", "&|?");
        stands("((w<1)|(w<1", "0123456789&|)");
        stands("(w<1)&(w<1", "0123456789&|)");
        stands("(w<1)&(w<1)", "&|?");
        truths();
    }

    /** Whether a condition holds for a billed weight of 8, by what it adds. */
    private static boolean holds(String condition) {
        ParcelDesk d = Desks.make(Desks::fine);
        Desks.due("rule() of " + condition, Desks.rule(d, condition + "?+5"), 1);
        return d.quote(8, 1, 1, 1, 0) == 1005;
    }

    private static void truth(String condition, boolean want) {
        String text = condition.replace("t", "w=8").replace("f", "w=9");
        Desks.due(text, holds(text) ? 1 : 0, want ? 1 : 0);
    }

    private static void truths() {
        String[] values = {"f", "t"};
        for (int i = 0; i < 8; i++) {
            boolean x = (i & 1) != 0;
            boolean y = (i & 2) != 0;
            boolean z = (i & 4) != 0;
            String a = values[i & 1];
            String b = values[i >> 1 & 1];
            String c = values[i >> 2];
            truth(a, x);
            truth("~" + a, !x);
            truth("~~" + a, x);
            truth(a + "|" + b + "|" + c, x || y || z);
            truth(a + "&" + b + "&" + c, x && y && z);
            truth(a + "&" + b + "|" + c, x && y || z);
            truth(a + "|" + b + "&" + c, x || y && z);
            truth("~" + a + "&" + b + "|~" + c, !x && y || !z);
            truth("(" + a + "|" + b + ")&" + c, (x || y) && z);
            truth(a + "&(" + b + "|" + c + ")", x && (y || z));
            truth("~(" + a + "|" + b + ")&" + c, !(x || y) && z);
            truth(a + "|~(" + b + "&" + c + ")", x || !(y && z));
            truth("~(~(" + a + ")&" + b + ")|" + c, !(!x && y) || z);
            truth(a + "&((" + b + "))|(((" + c + ")))", x && y || z);
            truth("((" + a + "|" + b + ")&" + c + ")", (x || y) && z);
            truth(a + "|((" + b + "))&" + c, x || y && z);
            truth(a + "|(((" + b + "|((" + c + ")))))", x || y || z);
            truth(a + "&~((~(" + b + "&((" + c + ")))))", x && y && z);
            truth("~((" + a + ")|" + b + "&(" + c + "|" + a + "))", !(x || y && (z || x)));
            truth("~~(" + a + ")&~(~(" + b + "|(" + c + ")))", x && (y || z));
        }
        for (int deep = 1; deep <= 27; deep++) {
            truth("(".repeat(deep) + "t" + ")".repeat(deep), true);
            truth("(".repeat(deep) + "f" + ")".repeat(deep), false);
        }
        for (int deep = 1; deep <= 18; deep++) {
            truth("~(".repeat(deep) + "t" + ")".repeat(deep), deep % 2 == 0);
            truth("~(".repeat(deep) + "f" + ")".repeat(deep), deep % 2 != 0);
        }
        for (int many = 1; many <= 54; many++) {
            truth("~".repeat(many) + "t", many % 2 == 0);
        }
        truth("(f|".repeat(9) + "t" + ")".repeat(9), true);
        truth("(t&".repeat(9) + "f" + ")".repeat(9), false);
        truth("f|".repeat(12) + "t", true);
        truth("t&".repeat(12) + "f", false);
        truth("(".repeat(25) + "f)|t" + ")".repeat(24), true);
    }

    /** Each letter against the number itself, the one below and the one above. */
    private static void compared(String letter, int fact, int real, int a, int b, int c, int zone) {
        for (int number = Math.max(fact - 1, 0); number <= fact + 1; number++) {
            String[] relations = {"<", "=", ">"};
            boolean[] want = {fact < number, fact == number, fact > number};
            for (int i = 0; i < 3; i++) {
                ParcelDesk d = Desks.make(Desks::fine);
                d.set(7, 5);
                String text = letter + relations[i] + number + "?+5";
                Desks.due("rule() of " + text, Desks.rule(d, text), 1);
                int plain = Desks.make(p -> {
                    Desks.fine(p);
                    p.set(7, 5);
                }).quote(real, a, b, c, zone);
                Desks.due(text, d.quote(real, a, b, c, zone) - plain, want[i] ? 5 : 0);
            }
        }
    }

    private static void comparisons() {
        compared("w", 15, 12, 1, 1, 1, 0);
        compared("w", 10, 1, 20, 20, 20, 0);
        compared("w", 99995, 99992, 1, 1, 1, 0);
        compared("r", 12, 12, 1, 1, 1, 0);
        compared("r", 1, 1, 20, 20, 20, 0);
        compared("r", 99998, 99998, 1, 1, 1, 0);
        compared("v", 1, 12, 1, 1, 1, 0);
        compared("v", 8, 1, 20, 20, 20, 0);
        compared("v", 24, 100, 20, 30, 40, 0);
        compared("g", 5, 12, 1, 1, 1, 0);
        compared("g", 40 + 2 * 52, 12, 21, 31, 40, 0);
        compared("g", 10000, 12, 2000, 2000, 2000, 0);
        compared("l", 1, 12, 1, 1, 1, 0);
        compared("l", 41, 12, 41, 31, 21, 0);
        compared("l", 41, 12, 31, 41, 21, 0);
        compared("l", 2000, 12, 21, 31, 2000, 0);
        for (int zone = 0; zone < 4; zone++) {
            compared("z", zone, 12, 1, 1, 1, zone);
        }
        ParcelDesk d = Desks.make(Desks::fine);
        Desks.rule(d, "v>99999&w>99999?+5");
        Desks.due("above each number", d.quote(1, 1000, 1000, 100, 0), 1005);
        Desks.due("not above it", d.quote(1, 900, 1010, 110, 0), 1000);
    }

    private static void numbers() {
        Desks.says("A number has one to five digits, also with zeros in front; a sixth digit cannot "
            + "stand.");
        String[] same = {"8", "08", "008", "0008", "00008"};
        for (String number : same) {
            Desks.due("w=" + number, holds("w=" + number) ? 1 : 0, 1);
            Desks.due("+" + number, changed(100, "+" + number), 108);
        }
        Desks.due("0", holds("w>0") ? 1 : 0, 1);
        Desks.due("00000", holds("w=00000|w<00000") ? 1 : 0, 0);
        Desks.due("99999", holds("w<99999") ? 1 : 0, 1);
        Desks.due("90000", holds("w>90000") ? 1 : 0, 0);
        Desks.due("+00000", changed(100, "+00000"), 100);
        for (String number : new String[] {"1", "12", "123", "1234"}) {
            stands("w>" + number, "0123456789&|?");
            stands("(w>" + number, "0123456789&|)");
        }
        for (String number : new String[] {"12345", "00000", "00008", "99999"}) {
            stands("w>" + number, "&|?");
            stands("(w>" + number, "&|)");
        }
        error("w>000008?+1", 7);
        error("w>8?+000001", 10);
    }

    private static void error(String text, int place) {
        Desks.leaves("rule() of " + text, -100 - place, d -> {
            Desks.busy(d);
            Desks.write(d, text);
        }, d -> d.rule());
    }

    private static void errorPlace() {
        Desks.says("The error place of a text is the index of the first character that cannot stand at "
            + "its place, or its length if it ends too early.");
        error("", 0);
        error("?", 0);
        error(" ", 0);
        error("1", 0);
        String whole = "~(w<1|z>22)&l=333?*4";
        for (int length = 0; length < whole.length(); length++) {
            error(whole.substring(0, length), length);
        }
        for (int place = 0; place < whole.length(); place++) {
            error(whole.substring(0, place) + "!" + whole.substring(place + 1), place);
        }
        error(whole + "!", whole.length());
        error(whole + "?", whole.length());
        error("!!!", 0);
        error("w!!", 1);
        error("(w<1?+1", 4);
        error("(w<1)))?+1", 5);
        error("w<1|".repeat(15), 60);
        error("~".repeat(59) + ")", 59);
        error("~".repeat(60), 60);
        error("(".repeat(60), 60);
        error("(".repeat(30) + "w<1" + ")".repeat(27), 60);
        error("~".repeat(55) + "w<1?+", 60);
        error("~".repeat(54) + "w<1?+!", 59);
        Desks.due("of 60 characters without an error",
            Desks.make(d -> Desks.write(d, "~".repeat(54) + "w<1?+1")).rule(), 1);
    }

    // ---- notes

    private static void notes() {
        Desks.namesNoEdge("NOTES.");
        Desks.says("There are at most 20 dispute notes, numbered from 0.");
        ParcelDesk d = Desks.make(Desks::one);
        for (int i = 0; i < 20; i++) {
            Desks.due("no note yet", d.note(i, 2), BAD);
            Desks.due("its number", d.dispute(0, 1, 100 + i), i);
            d.settle(i, false);
        }
        for (int i = 0; i < 20; i++) {
            Desks.due("a note of its own", d.note(i, 2), 100 + i);
        }
        Desks.due("no note 20", d.note(20, 0), BAD);
        Desks.leaves("one more", FULL, Desks::full, f -> f.dispute(25, 0, 5));
        Desks.leaves("one more, of a settled parcel", FULL, Desks::full, f -> f.dispute(0, 0, 5));
        d.undo();
        d.undo();
        Desks.due("room again", d.dispute(0, 1, 7), 19);

        Desks.says("A note is about a parcel and claims another value for one of its numbers (its real "
            + "weight or a side).");
        Desks.range("which number", 0, 3, Desks::one, (n, what) -> n.dispute(0, what, 50));
        Desks.range("real weight", 1, 100000, Desks::one, (n, value) -> n.dispute(0, 0, value));
        for (int side = 1; side <= 3; side++) {
            int what = side;
            Desks.range("side " + side, 1, 2000, Desks::one, (n, v) -> n.dispute(0, what, v));
        }

        Desks.says("It is open, accepted, or rejected.");
        Desks.due("open", Desks.make(Desks::busy).note(2, 4), 0);
        Desks.due("accepted", Desks.make(Desks::busy).note(0, 4), 1);
        Desks.due("rejected", Desks.make(Desks::busy).note(1, 4), 2);
        for (int note = 0; note < 2; note++) {
            int settled = note;
            Desks.leaves("settled already", STATE, Desks::busy, n -> n.settle(settled, true));
            Desks.leaves("settled already", STATE, Desks::busy, n -> n.settle(settled, false));
        }
    }

    private static void claims() {
        Desks.says("Its claim is the charge that the parcel would have with this value, as worked out "
            + "when the note is written, and not anew later.");
        ParcelDesk d = Desks.make(Desks::one);
        d.band(0, 500, 10);
        Desks.rule(d, "l>40?+3");
        d.dispute(0, 0, 500);
        Desks.due("just in the other band", d.note(0, 3), 10);
        d.settle(0, false);
        d.dispute(0, 0, 501);
        Desks.due("just not in it", d.note(1, 3), 1000);
        d.settle(1, false);
        d.dispute(0, 1, 41);
        Desks.due("by its rule", d.note(2, 3), 1003);
        d.settle(2, false);
        d.dispute(0, 3, 40);
        Desks.due("not by its rule", d.note(3, 3), 1000);
        d.unrule();
        d.unband(0, 0);
        d.set(7, 1000);
        d.band(0, 100000, 7);
        Desks.due("not anew", d.note(0, 3), 10);
        Desks.due("not anew", d.note(2, 3), 1003);
        Desks.due("not anew, open", d.note(3, 3), 1000);
        Desks.due("the charge of the parcel minus it", d.settle(3, true), 0);
    }

    private static void openNotes() {
        Desks.says("A parcel has at most one open note.");
        Desks.leaves("a second one", STATE, Desks::busy, d -> d.dispute(1, 0, 1));
        Desks.leaves("a second one, the same", STATE, Desks::busy, d -> d.dispute(1, 1, 20));
        Desks.due("of the other parcel", Desks.make(Desks::busy).dispute(0, 0, 1), 3);
        for (boolean accept : new boolean[] {true, false}) {
            ParcelDesk d = Desks.make(Desks::busy);
            Desks.due("the open one", d.parcel(1, 10), 2);
            d.settle(2, accept);
            Desks.due("none open", d.parcel(1, 10), NONE);
            Desks.due("one more, settled", d.dispute(1, 1, 20), 3);
            Desks.due("the open one", d.parcel(1, 10), 3);
        }
    }

    private static void accepted() {
        Desks.says("When a note is accepted, the parcel gets the claimed value and the claimed charge "
            + "(with the dimensional and the billed weight, the base and the reasons that were worked "
            + "out with it), and the old charge minus the new one is refunded (this can be less than "
            + "0).");
        ParcelDesk d = Desks.make(Desks::one);
        d.band(0, 90, 10);
        Desks.rule(d, "r<6?+1");
        d.dispute(0, 0, 5);
        d.set(6, 9999);
        d.set(7, 1000);
        d.unrule();
        d.unband(0, 1);
        d.unband(0, 0);
        Desks.due("refunded", d.settle(0, true), 1000 - 11);
        int[] want = {5, 30, 20, 10, 0, 6, 6, 10, 11, 90, NONE};
        for (int i = 0; i < want.length; i++) {
            Desks.due("parcel(0, " + i + ")", d.parcel(0, i), want[i]);
        }
        int[] reasons = {2, 10, 30, NONE};
        for (int i = 0; i < reasons.length; i++) {
            Desks.due("why(0, " + i + ")", d.why(0, i), reasons[i]);
        }
        Desks.due("refunded", d.note(0, 5), 989);
        d.band(0, 1000, 11);
        d.dispute(0, 2, 25);
        Desks.due("as much as it was", d.settle(1, true), 0);
        Desks.due("the value is the claimed one", d.parcel(0, 2), 25);
        d.set(7, 1);
        Desks.rule(d, "l=2000?*99999");
        Desks.rule(d, "l=2000?*99999");
        Desks.rule(d, "l=2000?*99999");
        d.dispute(0, 3, 2000);
        Desks.due("less than 0", d.settle(2, true), 11 - 10989690);
        Desks.due("less than 0", d.note(2, 5), 11 - 10989690);
        Desks.due("the girth", d.parcel(0, 9), 2000 + 2 * 55);
        Desks.due("in all", d.sum(1), 989 + 11 - 10989690);
    }

    // ---- history

    private static void history() {
        Desks.namesNoEdge("HISTORY.");
        Desks.says("A history of at most 4 states is kept (everything but the buffer).");
        ParcelDesk d = new ParcelDesk();
        Desks.due("none at first", d.undo(), NONE);
        for (int acts = 1; acts <= 9; acts++) {
            d = new ParcelDesk();
            for (int i = 1; i <= acts; i++) {
                d.set(0, i);
            }
            int kept = Math.min(acts, 4);
            for (int i = 1; i <= kept; i++) {
                Desks.due("undo() " + i + " of " + acts + " acts", d.undo(), kept - i);
                Desks.due("restored", d.setting(0), acts - i);
            }
            Desks.due("no more", d.undo(), NONE);
            Desks.due("no more", d.setting(0), acts - kept);
            d.set(0, 20);
            Desks.due("from there on", d.undo(), 0);
            Desks.due("from there on", d.setting(0), acts - kept);
        }
        d = Desks.make(Desks::fine);
        d.type('w');
        d.load(9);
        d.type('>');
        d.undo();
        Desks.due("not the buffer", d.type('1'), 3);
        d.type('?');
        d.type('+');
        d.type('1');
        d.rule();
        d.undo();
        Desks.due("not the buffer that a rule emptied", d.clear(), 0);
        Desks.due("but the rule", d.rules(), 0);
    }

    private static void acts() {
        Desks.says("Each call described as an act that returns no error adds the state before it, also "
            + "if it leaves all as it was; if there are 4 already, the oldest one is dropped. undo() "
            + "removes the latest one and restores it.");
        Desks.actsAnywhere("set(5, 7)", d -> d.set(5, 7));
        Desks.actsAnywhere("set(1, 0), as it was,", d -> d.set(1, 0));
        Desks.actsAnywhere("load(77)", d -> d.load(77));
        Desks.acts("load(0), as it was,", 0, Desks::fresh, d -> d.load(0));
        Desks.acts("load(950), as it was,", 950, Desks::full, d -> d.load(950));
        Desks.actsAnywhere("tick(1)", d -> d.tick(1));
        Desks.actsAnywhere("tick(100)", d -> d.tick(100));
        Desks.acts("band(), as it was,", 0, Desks::busy, d -> d.band(0, 1000, 300));
        Desks.actsAnywhere("setExtra(3, 7)", d -> d.setExtra(3, 7));
        Desks.actsAnywhere("setExtra(2, 100), as it was,", d -> d.setExtra(2, 100));
        Desks.acts("band() anew", 0, Desks::fresh, d -> d.band(3, 5, 6));
        Desks.acts("band() anew", 2, Desks::busy, d -> d.band(0, 100000, 6));
        Desks.acts("unband()", 1, Desks::busy, d -> d.unband(0, 0));
        Desks.acts("unband() of the last one", 0, Desks::few, d -> d.unband(1, 0));
        Desks.acts("rule()", 3, Desks::busy, d -> d.rule());
        Desks.acts("unrule()", 1, Desks::busy, d -> d.unrule());
        Desks.acts("unrule()", 7, Desks::full, d -> d.unrule());
        Desks.acts("zero(), as it was,", 0, d -> d.tick(3), d -> d.zero());
        Desks.acts("zero()", 0, d -> {
            d.tick(3);
            Desks.weigh(d, 1500);
        }, d -> d.zero());
        Desks.acts("tare()", 700, Desks::few, d -> d.tare());
        Desks.acts("tare(), as it was,", 700, d -> {
            Desks.few(d);
            d.tare();
        }, d -> d.tare());
        Desks.acts("take()", 0, Desks::few, d -> d.take(1, 2, 3, 1));
        Desks.acts("take()", 2, Desks::ready, d -> d.take(1, 2, 3, 1));
        Desks.acts("dispute()", 3, Desks::busy, d -> d.dispute(0, 2, 7));
        Desks.acts("settle(2, true)", Desks.make(Desks::busy).settle(2, true), Desks::busy,
            d -> d.settle(2, true));
        Desks.acts("settle(2, false)", 0, Desks::busy, d -> d.settle(2, false));
        Desks.acts("settle(19, false)", 0, Desks::full, d -> d.settle(19, false));
    }

    // ---- errors

    private static void refused() {
        Desks.namesNoEdge("ERRORS.");
        Desks.says("A call that returns an error changes nothing.");
        Desks.Setup[] desks = {Desks::fresh, Desks::few, Desks::busy, Desks::full};
        for (Desks.Setup desk : desks) {
            Desks.leaves("set(8, 0)", BAD, desk, d -> d.set(8, 0));
            Desks.leaves("set(6, 999)", BAD, desk, d -> d.set(6, 999));
            Desks.leaves("load(-1)", BAD, desk, d -> d.load(-1));
            Desks.leaves("tick(101)", BAD, desk, d -> d.tick(101));
            Desks.leaves("band(4, 1, 1)", BAD, desk, d -> d.band(4, 1, 1));
            Desks.leaves("band(0, 0, 1)", BAD, desk, d -> d.band(0, 0, 1));
            Desks.leaves("band(0, 1, -1)", BAD, desk, d -> d.band(0, 1, -1));
            Desks.leaves("unband(0, 6)", BAD, desk, d -> d.unband(0, 6));
            Desks.leaves("setExtra(0, -1)", BAD, desk, d -> d.setExtra(0, -1));
            Desks.leaves("type(31)", BAD, desk, d -> d.type(31));
            Desks.leaves("take(1, 1, 1, 4)", BAD, desk, d -> d.take(1, 1, 1, 4));
            Desks.leaves("quote(0, 1, 1, 1, 0)", BAD, desk, d -> d.quote(0, 1, 1, 1, 0));
            Desks.leaves("dispute(30, 0, 1)", BAD, desk, d -> d.dispute(30, 0, 1));
            Desks.leaves("settle(20, true)", BAD, desk, d -> d.settle(20, true));
        }
        Desks.leaves("zero()", STATE, Desks::busy, d -> d.zero());
        Desks.leaves("tare()", STATE, Desks::busy, d -> d.tare());
        Desks.leaves("take(1, 1, 1, 0)", STATE, Desks::busy, d -> d.take(1, 1, 1, 0));
        Desks.leaves("unrule()", STATE, Desks::few, d -> d.unrule());
        Desks.leaves("quote(1, 1, 1, 1, 3)", STATE, Desks::busy, d -> d.quote(1, 1, 1, 1, 3));
        Desks.leaves("undo()", NONE, Desks::fresh, d -> d.undo());
    }

    private static void firstError() {
        Desks.says("If several errors apply to a call, the one listed first is returned.");
        Desks.leaves("BAD ahead of FULL", BAD, Desks::full, d -> d.band(0, 100001, 1));
        Desks.leaves("BAD ahead of FULL", BAD, Desks::full, d -> d.type(127));
        Desks.leaves("the text ahead of FULL", -160, Desks::full, d -> d.rule());
        Desks.leaves("BAD ahead of FULL", BAD, Desks::full, d -> d.take(0, 1, 1, 0));
        Desks.Setup unsteady = d -> {
            Desks.full(d);
            d.load(950);
        };
        Desks.leaves("BAD ahead of STATE and FULL", BAD, unsteady, d -> d.take(1, 1, 2001, 0));
        Desks.leaves("STATE ahead of FULL", STATE, unsteady, d -> d.take(1, 1, 1, 0));
        Desks.leaves("BAD ahead of STATE", BAD, Desks::busy, d -> d.quote(1, 1, 1, 2001, 3));
        Desks.leaves("BAD ahead of STATE and FULL", BAD, Desks::full, d -> d.dispute(2, 1, 2001));
        Desks.leaves("STATE ahead of FULL", STATE, Desks::full, d -> d.dispute(2, 1, 2000));
    }

    private static void constants() {
        Desks.says("The constants: `BAD = -1000001`: An argument is not allowed, or there is no such "
            + "thing.");
        Desks.due("BAD", ParcelDesk.BAD, -1000001);
        Desks.says("`STATE = -1000002`: The call is not possible now.");
        Desks.due("STATE", ParcelDesk.STATE, -1000002);
        Desks.says("`FULL = -1000003`: There is no room.");
        Desks.due("FULL", ParcelDesk.FULL, -1000003);
        Desks.says("`NONE = -1000009`: There is none.");
        Desks.due("NONE", ParcelDesk.NONE, -1000009);
        Desks.namesNoEdge("Ahead of the calls `set`, `setting`, `load`, `tick`, `zero`, `tare`, `scale` "
            + "the interface says: ---- the scale.");
        Desks.namesNoEdge("Ahead of the calls `band`, `unband`, `bandAt`, `setExtra`, `type`, `clear`, "
            + "`rule`, `unrule`, `rules` the interface says: ---- prices.");
        Desks.namesNoEdge("Ahead of the calls `take`, `quote`, `parcel`, `why`, `parcels`, `density` "
            + "the interface says: ---- parcels.");
        Desks.namesNoEdge("Ahead of the calls `dispute`, `settle`, `note`, `notes`, `sum` the interface "
            + "says: ---- disputes.");
        Desks.namesNoEdge("Ahead of the calls `lighter`, `shorter`, `cheapest` the interface says: "
            + "---- what would be cheaper.");
        Desks.namesNoEdge("Ahead of the calls `undo`, `fingerprint` the interface says: ---- history.");
    }
}
