import java.lang.reflect.Constructor;
import java.lang.reflect.Field;
import java.lang.reflect.Method;
import java.lang.reflect.Modifier;
import java.util.Set;
import java.util.TreeSet;

/** For each promise of the document: ordinary inputs, the edges that it names, and wrong inputs. */
public final class PromisesTest {
    private static final int BAD = -1000001;
    private static final int STATE = -1000002;
    private static final int FULL = -1000003;
    private static final int NONE = -1000009;
    private static final int LOW = Integer.MIN_VALUE;
    private static final int HIGH = Integer.MAX_VALUE;

    private static int wrong = 0;

    public static void main(String[] args) {
        face();
        promise1();
        promise2();
        promise3();
        promise4();
        promise5();
        promise5Time();
        promise5Tracking();
        promise6();
        promise7();
        promise8();
        promise8Rounding();
        promise8Steady();
        promise9();
        promise10();
        promise11();
        promise12();
        promise13();
        promise14();
        promise15();
        promise15Errors();
        promise15Conditions();
        promise15Changes();
        promise16();
        promise17();
        promise18();
        promise18Order();
        promise19();
        promise19Weights();
        promise19Bands();
        promise20();
        promise21();
        promise22();
        promise23();
        promise24();
        promise24Order();
        promise25();
        promise26();
        promise27();
        promise28();
        promise29();
        promise30();
        promise31();
        promise32();
        promise32All();
        promise33();
        System.out.println(wrong == 0 ? "all answers are as due" : wrong + " answers are not");
        if (wrong != 0) {
            System.exit(1);
        }
    }

    private static void due(String call, long got, long want) {
        if (got != want) {
            wrong++;
            System.out.println(call + " answered " + got + ", due is " + want);
        }
    }

    private static void dueFloat(String call, float got, float want) {
        if (got != want) {
            wrong++;
            System.out.println(call + " answered " + got + ", due is " + want);
        }
    }

    // ---- helpers

    private static void write(ParcelDesk d, String text) {
        d.clear();
        for (int i = 0; i < text.length(); i++) {
            d.type(text.charAt(i));
        }
    }

    private static int rule(ParcelDesk d, String text) {
        write(d, text);
        return d.rule();
    }

    /** Lays a load on the scale and waits until it is steady. */
    private static void weigh(ParcelDesk d, int load) {
        d.load(load);
        d.tick(3);
    }

    private static int take(ParcelDesk d, int load, int a, int b, int c, int zone) {
        weigh(d, load);
        return d.take(a, b, c, zone);
    }

    /** A desk with a step and a unit of a gram and one band that holds all up to 100000. */
    private static ParcelDesk fine() {
        ParcelDesk d = new ParcelDesk();
        d.set(2, 1);
        d.set(7, 1);
        d.band(0, 100000, 1000);
        return d;
    }

    /**
     * A call that returns an error must leave the fingerprint and the history as they were. An act
     * that changes something is put ahead of it: if the call had added a state, undo() would not
     * bring back what was ahead of that act.
     */
    private static final class Unchanged {
        private static int marks = 0;
        private final ParcelDesk desk;
        private final long start;
        private long marked;

        Unchanged(ParcelDesk desk) {
            this.desk = desk;
            this.start = desk.fingerprint();
            mark();
        }

        private void mark() {
            marks++;
            desk.setExtra(3, 1000 + marks % 9000);
            marked = desk.fingerprint();
        }

        void check(String call, long got, long want) {
            due(call, got, want);
            due(call + " changed the desk", desk.fingerprint(), marked);
            desk.undo();
            due(call + " changed the history", desk.fingerprint(), start);
            mark();
        }
    }

    // ---- the face

    private static void face() {
        due("BAD", ParcelDesk.BAD, BAD);
        due("STATE", ParcelDesk.STATE, STATE);
        due("FULL", ParcelDesk.FULL, FULL);
        due("NONE", ParcelDesk.NONE, NONE);
        Set<String> names = new TreeSet<>();
        for (Method m : ParcelDesk.class.getDeclaredMethods()) {
            if (!Modifier.isPrivate(m.getModifiers())) {
                names.add(m.getReturnType() + " " + m.getName() + m.getParameterCount());
            }
        }
        Set<String> want = new TreeSet<>(Set.of("int set2", "int setting1", "int load1", "int tick1",
            "int zero0", "int tare0", "int scale1", "int band3", "int unband2", "int bandAt3",
            "int setExtra2", "int type1", "int clear0", "int rule0", "int unrule0", "int rules0",
            "int take4", "int quote5", "int parcel2", "int why2", "int parcels0", "float density1",
            "int dispute3", "int settle2", "int note2", "int notes0", "long sum1", "int lighter1",
            "int shorter2", "int cheapest1", "int undo0", "long fingerprint0"));
        if (!names.equals(want)) {
            wrong++;
            System.out.println("the face's methods are " + names);
        }
        for (Field f : ParcelDesk.class.getDeclaredFields()) {
            boolean isConstant = Set.of("BAD", "STATE", "FULL", "NONE").contains(f.getName());
            due(f.getName() + " is private", Modifier.isPrivate(f.getModifiers()) ? 1 : 0,
                isConstant ? 0 : 1);
        }
        due("constructors", ParcelDesk.class.getDeclaredConstructors().length, 1);
        for (Constructor<?> c : ParcelDesk.class.getDeclaredConstructors()) {
            due("the constructor is public", Modifier.isPublic(c.getModifiers()) ? 1 : 0, 1);
        }
        due("final", Modifier.isFinal(ParcelDesk.class.getModifiers()) ? 1 : 0, 1);
    }

    // ---- the scale

    private static void promise1() {
        ParcelDesk d = new ParcelDesk();
        int[] settings = {0, 0, 10, 30000, 10, 5, 5000, 100};
        for (int i = 0; i < 8; i++) {
            due("1: setting(" + i + ")", d.setting(i), settings[i]);
        }
        for (int i = 0; i <= 10; i++) {
            due("1: scale(" + i + ")", d.scale(i), 0);
        }
        for (int zone = 0; zone < 4; zone++) {
            due("1: bandAt", d.bandAt(zone, 0, 0), BAD);
        }
        due("1: rules", d.rules(), 0);
        due("1: parcels", d.parcels(), 0);
        due("1: notes", d.notes(), 0);
        due("1: undo", d.undo(), NONE);
        due("1: clear", d.clear(), 0);
        for (int zone = 0; zone < 4; zone++) {
            due("1: extra", d.setExtra(zone, 0), 100);
        }
        ParcelDesk other = new ParcelDesk();
        due("1: desks do not share bands", other.band(0, 5, 5), 0);
        due("1: desks do not share bands", new ParcelDesk().bandAt(0, 0, 0), BAD);
    }

    private static final int[] LOWEST = {-20, -20, 1, 1000, 0, 0, 1000, 1};
    private static final int[] HIGHEST = {20, 20, 100, 70000, 100, 200, 9999, 1000};

    private static void promise2() {
        for (int i = 0; i < 8; i++) {
            ParcelDesk d = new ParcelDesk();
            int first = d.setting(i);
            due("2: lowest of " + i, d.set(i, LOWEST[i]), first);
            due("2: highest of " + i, d.set(i, HIGHEST[i]), LOWEST[i]);
            due("2: highest stands", d.setting(i), HIGHEST[i]);
            Unchanged u = new Unchanged(d);
            u.check("2: below the lowest of " + i, d.set(i, LOWEST[i] - 1), BAD);
            u.check("2: above the highest of " + i, d.set(i, HIGHEST[i] + 1), BAD);
            u.check("2: far below", d.set(i, LOW), BAD);
            u.check("2: far above", d.set(i, HIGH), BAD);
            due("2: an act also if it changes nothing", d.set(i, HIGHEST[i]), HIGHEST[i]);
        }
        ParcelDesk d = new ParcelDesk();
        Unchanged u = new Unchanged(d);
        u.check("2: setting -1", d.set(-1, 1), BAD);
        u.check("2: setting 8", d.set(8, 1), BAD);
        u.check("2: setting MIN", d.set(LOW, 1), BAD);
        u.check("2: setting MAX", d.set(HIGH, 1), BAD);
        d.undo();
        d.set(0, 7);
        due("2: one act", d.undo(), 0);
        due("2: one act undone", d.setting(0), 0);
    }

    private static void promise3() {
        ParcelDesk d = new ParcelDesk();
        for (int i = 0; i < 8; i++) {
            d.set(i, HIGHEST[i] - 1);
        }
        for (int i = 0; i < 8; i++) {
            due("3: setting " + i, d.setting(i), HIGHEST[i] - 1);
        }
        due("3: -1", d.setting(-1), BAD);
        due("3: 8", d.setting(8), BAD);
        due("3: MIN", d.setting(LOW), BAD);
        due("3: MAX", d.setting(HIGH), BAD);
        due("3: no act", d.undo(), 3);
        due("3: no act", d.setting(7), 100);
    }

    private static void promise4() {
        ParcelDesk d = new ParcelDesk();
        due("4: load", d.load(100000), 0);
        due("4: load", d.load(0), 100000);
        due("4: load", d.load(3), 0);
        due("4: load stands", d.scale(10), 3);
        d.tick(5);
        due("4: tracking count", d.scale(9), 2);
        due("4: steady", d.scale(7), 1);
        due("4: the same load again", d.load(3), 3);
        due("4: readings do not count any more", d.scale(7), 0);
        due("4: the tracking count stays", d.scale(9), 2);
        d.tick(2);
        due("4: two readings", d.scale(7), 0);
        d.tick(1);
        due("4: three readings", d.scale(7), 1);
        Unchanged u = new Unchanged(d);
        u.check("4: -1", d.load(-1), BAD);
        u.check("4: 100001", d.load(100001), BAD);
        u.check("4: MIN", d.load(LOW), BAD);
        u.check("4: MAX", d.load(HIGH), BAD);
        due("4: still steady", d.scale(7), 1);
        d.load(9);
        due("4: not steady", d.scale(7), 0);
        d.undo();
        due("4: steady again by undo", d.scale(7), 1);
        due("4: load again by undo", d.scale(10), 3);
    }

    private static void promise5() {
        ParcelDesk d = new ParcelDesk();
        d.set(5, 0);
        d.set(0, -20);
        d.load(1000);
        due("5: tick(1)", d.tick(1), 980);
        due("5: tick(100)", d.tick(100), -1020);
        due("5: time", d.scale(0), 101);
        due("5: offset", d.scale(6), -2020);
        d.set(1, 7);
        due("5: the span error", d.tick(1), 1007 - 2040);
        due("5: a hundred ticks are one act", d.undo(), 3);
        due("5: time", d.scale(0), 101);
        Unchanged u = new Unchanged(d);
        u.check("5: 0", d.tick(0), BAD);
        u.check("5: 101", d.tick(101), BAD);
        u.check("5: -1", d.tick(-1), BAD);
        u.check("5: MIN", d.tick(LOW), BAD);
        u.check("5: MAX", d.tick(HIGH), BAD);
    }

    /** No 512 calls get so far: nothing is promised here, but the limit is in the document. */
    private static void promise5Time() {
        ParcelDesk d = new ParcelDesk();
        for (int i = 0; i < 999; i++) {
            d.tick(100);
        }
        d.tick(99);
        Unchanged u = new Unchanged(d);
        u.check("5: beyond 100000", d.tick(2), STATE);
        u.check("5: BAD ahead of STATE", d.tick(101), BAD);
        due("5: up to 100000", d.tick(1), 0);
        due("5: time", d.scale(0), 100000);
        due("5: beyond 100000", d.tick(1), STATE);
    }

    private static void promise5Tracking() {
        ParcelDesk d = new ParcelDesk();
        d.load(5);
        d.tick(2);
        due("5: tracking count", d.scale(9), 2);
        due("5: zero not yet", d.scale(4), 0);
        d.tick(1);
        due("5: zero tracked", d.scale(4), 5);
        due("5: count then", d.scale(9), 0);
        d.load(11);
        d.tick(3);
        due("5: beyond the band", d.scale(9), 0);
        due("5: zero stays", d.scale(4), 5);
        d.load(0);
        d.tick(2);
        due("5: below the zero", d.scale(9), 2);
        d.load(50);
        d.tick(1);
        due("5: broken row", d.scale(9), 0);
        d.load(0);
        d.tick(3);
        due("5: tracked downward", d.scale(4), 0);

        ParcelDesk drifting = new ParcelDesk();
        drifting.set(0, 2);
        drifting.tick(2);
        due("5: 2 and 4 are in the band", drifting.scale(9), 2);
        drifting.tick(1);
        due("5: 6 is not", drifting.scale(9), 0);
        due("5: zero stays", drifting.scale(4), 0);
        drifting.set(5, 6);
        drifting.set(0, 0);
        drifting.tick(1);
        due("5: the band as it is now", drifting.scale(9), 1);
        drifting.set(5, 0);
        due("5: only a tick changes the count", drifting.scale(9), 1);
        drifting.tick(1);
        due("5: count broken", drifting.scale(9), 0);
    }

    private static void promise6() {
        ParcelDesk d = new ParcelDesk();
        d.set(3, 1019);
        d.set(5, 0);
        Unchanged u = new Unchanged(d);
        u.check("6: no readings", d.zero(), STATE);
        weigh(d, 50);
        due("6: a twentieth", d.zero(), 0);
        due("6: the zero", d.scale(4), 50);
        due("6: gross weight", d.scale(2), 0);
        weigh(d, 101);
        u = new Unchanged(d);
        u.check("6: more than a twentieth from the zero as it is", d.zero(), STATE);
        weigh(d, 0);
        due("6: a twentieth below", d.zero(), 50);
        due("6: the zero", d.scale(4), 0);
        weigh(d, 51);
        u = new Unchanged(d);
        u.check("6: a gram more", d.zero(), STATE);
        d.set(3, 1020);
        due("6: the capacity as it is now", d.zero(), 0);
        weigh(d, 71);
        int tare = d.tare();
        due("6: tare", tare, 20);
        d.set(5, 200);
        d.tick(2);
        int count = d.scale(9);
        due("6: count ahead", count, 2);
        due("6: zero", d.zero(), 51);
        due("6: the new zero", d.scale(4), 71);
        due("6: tare then", d.scale(5), 0);
        due("6: the count stays", d.scale(9), count);
        due("6: still steady", d.scale(7), 1);
        d.undo();
        due("6: tare again", d.scale(5), tare);
        d.load(80);
        d.tick(2);
        u = new Unchanged(d);
        u.check("6: not steady", d.zero(), STATE);
    }

    private static void promise7() {
        ParcelDesk d = new ParcelDesk();
        d.set(3, 1000);
        Unchanged u = new Unchanged(d);
        u.check("7: no readings", d.tare(), STATE);
        weigh(d, 1000);
        due("7: up to the capacity", d.tare(), 1000);
        due("7: net weight", d.scale(3), 0);
        due("7: gross weight stays", d.scale(2), 1000);
        due("7: again, of the gross weight", d.tare(), 1000);
        weigh(d, 1001);
        u = new Unchanged(d);
        u.check("7: over", d.tare(), STATE);
        d.set(5, 0);
        weigh(d, 45);
        due("7: zeroed", d.zero(), 0);
        weigh(d, 39);
        u = new Unchanged(d);
        u.check("7: gross weight -10", d.tare(), STATE);
        weigh(d, 40);
        due("7: gross weight 0 by rounding up", d.tare(), 0);
        weigh(d, 53);
        due("7: rounded", d.tare(), 10);
        d.load(53);
        d.tick(2);
        u = new Unchanged(d);
        u.check("7: not steady", d.tare(), STATE);
    }

    private static void promise8() {
        ParcelDesk d = new ParcelDesk();
        d.set(0, 3);
        d.set(5, 10);
        d.tick(1);
        d.set(5, 0);
        d.set(4, 100);
        weigh(d, 900);
        d.tare();
        weigh(d, 1009);
        int[] want = {7, 1030, 1030, 120, 0, 910, 21, 1, 0, 0, 1009};
        for (int i = 0; i <= 10; i++) {
            due("8: scale(" + i + ")", d.scale(i), want[i]);
        }
        d.set(3, 1029);
        due("8: over", d.scale(8), 1);
        d.set(3, 1030);
        due("8: not over", d.scale(8), 0);
        due("8: -1", d.scale(-1), BAD);
        due("8: 11", d.scale(11), BAD);
        due("8: MIN", d.scale(LOW), BAD);
        due("8: MAX", d.scale(HIGH), BAD);
    }

    private static void promise8Rounding() {
        ParcelDesk d = new ParcelDesk();
        d.load(14);
        due("8: 14", d.scale(2), 10);
        d.load(15);
        due("8: of two the greater one", d.scale(2), 20);
        d.set(5, 0);
        d.set(0, -5);
        d.load(0);
        d.tick(1);
        due("8: -5", d.scale(2), 0);
        d.set(0, -1);
        d.tick(1);
        due("8: -6", d.scale(2), -10);
        d.set(0, -9);
        d.tick(1);
        due("8: -15", d.scale(2), -10);
        d.set(2, 7);
        due("8: -15 by 7", d.scale(2), -14);
        d.set(2, 1);
        due("8: -15 by 1", d.scale(2), -15);
        d.set(2, 100);
        due("8: -15 by 100", d.scale(2), 0);
        ParcelDesk span = new ParcelDesk();
        span.set(1, -20);
        span.load(1234);
        due("8: 1234 by 980, rounded down", span.scale(1), 1209);
        span.set(1, 20);
        due("8: 1234 by 1020, rounded down", span.scale(1), 1258);
        span.load(100000);
        due("8: the greatest reading", span.scale(1), 102000);
    }

    private static void promise8Steady() {
        ParcelDesk d = new ParcelDesk();
        d.set(0, 5);
        d.tick(2);
        due("8: two readings", d.scale(7), 0);
        d.tick(1);
        due("8: 5 10 15", d.scale(7), 1);
        d.set(0, 6);
        d.tick(1);
        due("8: 10 15 21", d.scale(7), 0);
        d.set(4, 11);
        due("8: the band as it is now", d.scale(7), 1);
        d.set(0, -6);
        d.tick(1);
        due("8: 15 21 15", d.scale(7), 1);
        d.set(4, 5);
        due("8: the middle one counts", d.scale(7), 0);
        d.set(0, 0);
        d.tick(1);
        due("8: 21 15 15", d.scale(7), 0);
        d.tick(1);
        due("8: 15 15 15", d.scale(7), 1);
        d.set(1, 20);
        due("8: readings are as they were put down", d.scale(7), 1);
    }

    // ---- prices

    private static void promise9() {
        ParcelDesk d = new ParcelDesk();
        due("9: first", d.band(2, 500, 50), 0);
        due("9: behind", d.band(2, 700, 70), 1);
        due("9: ahead", d.band(2, 100000, 0), 2);
        due("9: between", d.band(2, 600, 60), 1);
        due("9: smallest", d.band(2, 1, 100000), 0);
        due("9: sixth", d.band(2, 650, 65), 3);
        int[] limits = {1, 500, 600, 650, 700, 100000};
        int[] prices = {100000, 50, 60, 65, 70, 0};
        for (int i = 0; i < 6; i++) {
            due("9: limit " + i, d.bandAt(2, i, 0), limits[i]);
            due("9: price " + i, d.bandAt(2, i, 1), prices[i]);
        }
        Unchanged u = new Unchanged(d);
        u.check("9: seventh", d.band(2, 2, 2), FULL);
        u.check("9: BAD ahead of FULL", d.band(2, 100001, 2), BAD);
        due("9: the same limit", d.band(2, 650, 99), 3);
        due("9: its price", d.bandAt(2, 3, 1), 99);
        due("9: the others stay", d.bandAt(2, 4, 1), 70);
        due("9: other zones have room", d.band(3, 2, 2), 0);
        u = new Unchanged(d);
        u.check("9: zone -1", d.band(-1, 1, 1), BAD);
        u.check("9: zone 4", d.band(4, 1, 1), BAD);
        u.check("9: limit 0", d.band(0, 0, 1), BAD);
        u.check("9: limit 100001", d.band(0, 100001, 1), BAD);
        u.check("9: price -1", d.band(0, 1, -1), BAD);
        u.check("9: price 100001", d.band(0, 1, 100001), BAD);
        u.check("9: far", d.band(LOW, LOW, LOW), BAD);
        u.check("9: far", d.band(HIGH, HIGH, HIGH), BAD);
        d.band(0, 8, 8);
        d.undo();
        due("9: an act", d.bandAt(0, 0, 0), BAD);
    }

    private static void promise10() {
        ParcelDesk d = new ParcelDesk();
        d.band(1, 10, 1);
        d.band(1, 20, 2);
        d.band(1, 30, 3);
        d.band(2, 40, 4);
        Unchanged u = new Unchanged(d);
        u.check("10: index 3", d.unband(1, 3), BAD);
        u.check("10: index -1", d.unband(1, -1), BAD);
        u.check("10: zone 4", d.unband(4, 0), BAD);
        u.check("10: zone -1", d.unband(-1, 0), BAD);
        u.check("10: empty zone", d.unband(0, 0), BAD);
        u.check("10: far", d.unband(HIGH, LOW), BAD);
        u.check("10: far", d.unband(LOW, HIGH), BAD);
        due("10: the middle one", d.unband(1, 1), 2);
        due("10: the rest moves", d.bandAt(1, 1, 0), 30);
        due("10: the rest moves", d.bandAt(1, 1, 1), 3);
        due("10: those ahead stay", d.bandAt(1, 0, 0), 10);
        due("10: one less", d.bandAt(1, 2, 0), BAD);
        due("10: the first", d.unband(1, 0), 1);
        due("10: the last", d.unband(1, 0), 0);
        due("10: none", d.unband(1, 0), BAD);
        due("10: the other zone", d.bandAt(2, 0, 0), 40);
        due("10: an act", d.undo(), 3);
        due("10: an act", d.bandAt(1, 0, 0), 30);
    }

    private static void promise11() {
        ParcelDesk d = new ParcelDesk();
        d.band(3, 10, 1);
        d.band(3, 20, 2);
        due("11: limit", d.bandAt(3, 1, 0), 20);
        due("11: price", d.bandAt(3, 1, 1), 2);
        due("11: limit", d.bandAt(3, 0, 0), 10);
        due("11: what 2", d.bandAt(3, 0, 2), BAD);
        due("11: what -1", d.bandAt(3, 0, -1), BAD);
        due("11: index 2", d.bandAt(3, 2, 0), BAD);
        due("11: index -1", d.bandAt(3, -1, 0), BAD);
        due("11: zone 4", d.bandAt(4, 0, 0), BAD);
        due("11: zone -1", d.bandAt(-1, 0, 0), BAD);
        due("11: other zone", d.bandAt(2, 0, 0), BAD);
        due("11: far", d.bandAt(HIGH, HIGH, HIGH), BAD);
        due("11: far", d.bandAt(LOW, LOW, LOW), BAD);
        due("11: no act", d.undo(), 1);
    }

    private static void promise12() {
        ParcelDesk d = new ParcelDesk();
        due("12: first", d.setExtra(0, 10000), 100);
        due("12: then", d.setExtra(0, 0), 10000);
        due("12: other zone", d.setExtra(3, 7), 100);
        Unchanged u = new Unchanged(d);
        u.check("12: -1", d.setExtra(0, -1), BAD);
        u.check("12: 10001", d.setExtra(0, 10001), BAD);
        u.check("12: zone 4", d.setExtra(4, 1), BAD);
        u.check("12: zone -1", d.setExtra(-1, 1), BAD);
        u.check("12: far", d.setExtra(HIGH, LOW), BAD);
        d.undo();
        d.undo();
        due("12: an act", d.setExtra(3, 1), 100);
    }

    private static void promise13() {
        ParcelDesk d = new ParcelDesk();
        due("13: 31", d.type(31), BAD);
        due("13: 127", d.type(127), BAD);
        due("13: MIN", d.type(LOW), BAD);
        due("13: MAX", d.type(HIGH), BAD);
        due("13: by its low bits an a", d.type(65536 + 'w'), BAD);
        due("13: 32", d.type(32), 1);
        due("13: 126", d.type(126), 2);
        for (int i = 3; i <= 60; i++) {
            due("13: type", d.type('w'), i);
        }
        due("13: FULL", d.type('w'), FULL);
        due("13: BAD ahead of FULL", d.type(31), BAD);
        due("13: no act", d.undo(), NONE);
        due("13: it stays", d.clear(), 60);
    }

    private static void promise14() {
        ParcelDesk d = new ParcelDesk();
        due("14: empty", d.clear(), 0);
        d.type('w');
        d.type('w');
        due("14: two", d.clear(), 2);
        due("14: empty then", d.clear(), 0);
        due("14: no act", d.undo(), NONE);
        due("14: from the start again", d.type('z'), 1);
    }

    private static void promise15() {
        ParcelDesk d = new ParcelDesk();
        for (int i = 1; i <= 8; i++) {
            due("15: rule " + i, rule(d, "w>0?+" + i), i);
            due("15: the buffer is empty then", d.clear(), 0);
        }
        write(d, "w>0?+9");
        Unchanged u = new Unchanged(d);
        u.check("15: FULL", d.rule(), FULL);
        due("15: the buffer stays", d.clear(), 6);
        write(d, "w>0?");
        u.check("15: an error of the text ahead of FULL", d.rule(), -104);
        due("15: the buffer stays", d.clear(), 4);
        d.undo();
        d.undo();
        due("15: an act", d.rules(), 7);
        due("15: the buffer is not undone", d.clear(), 0);
        due("15: a text of 60 characters",
            rule(d, "((((((((((((((((((((((((((~w=00001))))))))))))))))))))))))))?*99999".substring(5)
                .replace(")))))?", "?")), 8);
    }

    private static void error(String text, int place) {
        ParcelDesk d = new ParcelDesk();
        write(d, text);
        Unchanged u = new Unchanged(d);
        u.check("15: " + text, d.rule(), place < 0 ? 1 : -100 - place);
        due("15: the buffer stays with " + text, d.clear(), text.length());
    }

    private static void promise15Errors() {
        error("", 0);
        error("?", 0);
        error("~", 1);
        error("(", 1);
        error(")", 0);
        error("()", 1);
        error("w", 1);
        error("w<", 2);
        error("w<1", 3);
        error("w<1?", 4);
        error("w<1?+", 5);
        error("w<1?+a", 5);
        error("w<?+1", 2);
        error("w?+1", 1);
        error("w!1?+1", 1);
        error("W<1?+1", 0);
        error(" w<1?+1", 0);
        error("w <1?+1", 1);
        error("w< 1?+1", 2);
        error("w<-1?+1", 2);
        error("w<1 ?+1", 3);
        error("w<1? +1", 4);
        error("w<1?+1 ", 6);
        error("w<1?/1", 4);
        error("w<1?+-1", 5);
        error("w<123456?+1", 7);
        error("w<000001?+1", 7);
        error("w<1?+123456", 10);
        error("w<1?+000001", 10);
        error("w<1?+1&w<1", 6);
        error("w<1&?+1", 4);
        error("w<1|?+1", 4);
        error("w<1&&w<1?+1", 4);
        error("w<1~?+1", 3);
        error("w<1(w<1)?+1", 3);
        error("w<1)?+1", 3);
        error("(w<1?+1", 4);
        error("(w<1))?+1", 5);
        error("(w<1)w<1?+1", 5);
        error("(w<1)1?+1", 5);
        error("(w<1)(w<1)?+1", 5);
        error("(w<1|)?+1", 5);
        error("~)", 1);
        error("~?", 1);
        error("~1", 1);
        error("~&", 1);
        error("w=1?+1?", 6);
        error("ww<1?+1", 1);
        error("w<=1?+1", 2);
        error("w<w?+1", 2);
        error("w<1?w<1", 4);
        error("(".repeat(60), 60);
        error("~".repeat(60), 60);
        error("(".repeat(59) + ")", 59);
        error("w<1|".repeat(15), 60);
        error("(".repeat(30) + "w<1" + ")".repeat(27), 60);
    }

    /** Whether the condition holds for a real weight of 700 and sides 250, 100, 31 to zone 2. */
    private static void holds(String condition, boolean want) {
        ParcelDesk d = new ParcelDesk();
        d.band(2, 1, 0);
        d.setExtra(2, 0);
        due("15: " + condition, rule(d, condition + "?+1"), 1);
        due("15: " + condition + " holds", d.quote(701, 250, 100, 31, 2), want ? 1 : 0);
    }

    private static void promise15Conditions() {
        // billed 800, real 701, dimensional 25 * 10 * 4 * 1000 / 5000 = 200, girth 512, longest 250
        holds("w=800", true);
        holds("w<800", false);
        holds("w>800", false);
        holds("w<801", true);
        holds("w>799", true);
        holds("r=701", true);
        holds("r<701", false);
        holds("r>700", true);
        holds("v=200", true);
        holds("v>200", false);
        holds("v<00201", true);
        holds("g=512", true);
        holds("g<512", false);
        holds("l=250", true);
        holds("l>250", false);
        holds("l=100", false);
        holds("z=2", true);
        holds("z<2", false);
        holds("z=00002", true);
        holds("~z=2", false);
        holds("~~z=2", true);
        holds("~~~z=2", false);
        holds("z=2&w=1", false);
        holds("z=2&w=800", true);
        holds("z=1|w=800", true);
        holds("z=1|w=1", false);
        holds("z=2|z=2&z=1", true);
        holds("z=1&z=2|z=2", true);
        holds("z=1&(z=2|z=2)", false);
        holds("(z=2|z=2)&z=1", false);
        holds("~z=1&z=2", true);
        holds("~z=2&z=1", false);
        holds("~z=2|z=2", true);
        holds("~(z=2|z=2)", false);
        holds("~(z=1|z=2&~z=2)", true);
        holds("~(~(z=2))", true);
        holds("~~(z=2)", true);
        holds("z=2&~(z=1&~(z=2))", true);
        holds("z=1|(z=1|(z=1|(z=2)))", true);
        holds("((z=1|z=2)&(z=2|z=1))", true);
        holds("((z=1|z=2)&(z=1|z=1))", false);
        holds("z=1|~(z=2)|z=1", false);
        holds("(z=2)|z=1", true);
        holds("(z=1)|z=1&(z=2)", false);
        holds("(((((((((((((((((((((((((z=2)))))))))))))))))))))))))", true);
        holds("z=2|((z=1))", true);
        holds("z=1&((z=2))", false);
        holds("~((z=1))", true);
        holds("~((z=1)|(z=2))", false);
        holds("~w<00000", true);
        holds("w=0|w<0", false);
        holds("~(~(~(~(~(~(~(~(~(~(~(~(~(z=1)))))))))))))", true);
    }

    private static void change(String change, int base, int want) {
        ParcelDesk d = new ParcelDesk();
        d.band(0, 100000, base);
        due("15: " + change, rule(d, "w>0?" + change), 1);
        due("15: " + change + " of " + base, d.quote(1, 1, 1, 1, 0), want);
    }

    private static void promise15Changes() {
        change("+0", 7, 7);
        change("+99999", 7, 100006);
        change("+00012", 7, 19);
        change("-7", 7, 0);
        change("-8", 7, 0);
        change("-6", 7, 1);
        change("*1000", 7, 7);
        change("*1", 999, 0);
        change("*1", 1000, 1);
        change("*999", 1001, 999);
        change("*0", 7, 0);
        change("*99999", 100000, 9999900);

        ParcelDesk d = new ParcelDesk();
        d.band(0, 1000, 100000);
        rule(d, "w>0?*99999");
        rule(d, "w>0?*99999");
        due("15: rounded down", d.quote(1, 1, 1, 1, 0), 999980000);
        rule(d, "w>0?+19999");
        due("15: below 1000000000", d.quote(1, 1, 1, 1, 0), 999999999);
        d.unrule();
        rule(d, "w>0?+20000");
        due("15: 1000000000", d.quote(1, 1, 1, 1, 0), 1000000000);
        d.unrule();
        rule(d, "w>0?+20001");
        due("15: not above 1000000000", d.quote(1, 1, 1, 1, 0), 1000000000);
        rule(d, "w>0?*2000");
        due("15: at most 1000000000", d.quote(1, 1, 1, 1, 0), 1000000000);
        rule(d, "w>0?-50000");
        due("15: from 1000000000 on", d.quote(1, 1, 1, 1, 0), 999950000);

        ParcelDesk ordered = new ParcelDesk();
        ordered.band(0, 100000, 100);
        rule(ordered, "w>0?-200");
        rule(ordered, "w>0?+30");
        rule(ordered, "w>0?*1500");
        due("15: one after the other", ordered.quote(1, 1, 1, 1, 0), 45);
    }

    private static void promise16() {
        ParcelDesk d = new ParcelDesk();
        Unchanged u = new Unchanged(d);
        u.check("16: none", d.unrule(), STATE);
        d.band(0, 1000, 100);
        rule(d, "w>0?+1");
        rule(d, "w>0?+20");
        due("16: the last one", d.unrule(), 1);
        due("16: the first one stays", d.quote(1, 1, 1, 1, 0), 101);
        due("16: an act", d.undo(), 3);
        due("16: an act", d.quote(1, 1, 1, 1, 0), 121);
        due("16: down", d.unrule(), 1);
        due("16: to none", d.unrule(), 0);
        due("16: none", d.unrule(), STATE);
    }

    private static void promise17() {
        ParcelDesk d = new ParcelDesk();
        due("17: none", d.rules(), 0);
        rule(d, "w>0?+1");
        due("17: one", d.rules(), 1);
        rule(d, "w>0?+");
        due("17: not with an error", d.rules(), 1);
        rule(d, "w>0?+1");
        due("17: two", d.rules(), 2);
        d.unrule();
        due("17: one", d.rules(), 1);
        due("17: no act", d.undo(), 2);
    }

    // ---- parcels

    private static void promise18() {
        ParcelDesk d = fine();
        weigh(d, 900);
        d.tare();
        due("18: first", take(d, 901, 1, 2000, 7, 0), 0);
        due("18: the net weight", d.parcel(0, 0), 1);
        due("18: side a", d.parcel(0, 1), 1);
        due("18: side b", d.parcel(0, 2), 2000);
        due("18: side c", d.parcel(0, 3), 7);
        due("18: the load stays", d.scale(10), 901);
        due("18: it is steady still", d.take(5, 5, 5, 0), 1);
        due("18: an act", d.undo(), 3);
        due("18: an act", d.parcels(), 1);
        Unchanged u = new Unchanged(d);
        int[] sides = {0, 2001, -1, LOW, HIGH};
        for (int side : sides) {
            u.check("18: a " + side, d.take(side, 1, 1, 0), BAD);
            u.check("18: b " + side, d.take(1, side, 1, 0), BAD);
            u.check("18: c " + side, d.take(1, 1, side, 0), BAD);
        }
        int[] zones = {-1, 4, LOW, HIGH};
        for (int zone : zones) {
            u.check("18: zone " + zone, d.take(1, 1, 1, zone), BAD);
        }
        u.check("18: no bands", d.take(1, 1, 1, 1), STATE);
        d.load(901);
        u = new Unchanged(d);
        u.check("18: not steady", d.take(1, 1, 1, 0), STATE);
        weigh(d, 900);
        u = new Unchanged(d);
        u.check("18: a net weight of 0", d.take(1, 1, 1, 0), STATE);
        weigh(d, 30000);
        due("18: up to the capacity", d.take(1, 1, 1, 0), 1);
        weigh(d, 30001);
        u = new Unchanged(d);
        u.check("18: over", d.take(1, 1, 1, 0), STATE);
        u.check("18: BAD ahead of STATE", d.take(0, 1, 1, 0), BAD);
    }

    private static void promise18Order() {
        ParcelDesk d = fine();
        weigh(d, 500);
        for (int i = 0; i < 30; i++) {
            due("18: parcel " + i, d.take(i + 1, 1, 1, 0), i);
        }
        Unchanged u = new Unchanged(d);
        u.check("18: FULL", d.take(1, 1, 1, 0), FULL);
        u.check("18: BAD ahead of FULL", d.take(1, 1, 1, 4), BAD);
        u.check("18: STATE ahead of FULL", d.take(1, 1, 1, 1), STATE);
        due("18: all stay", d.parcel(29, 1), 30);
    }

    private static void promise19() {
        ParcelDesk d = new ParcelDesk();
        d.band(1, 100000, 77);
        Unchanged u = new Unchanged(d);
        due("19: least", d.quote(1, 1, 1, 1, 1), 77);
        due("19: greatest", d.quote(100000, 2000, 2000, 2000, 1), 77 + 1500 * 100);
        u.check("19: weight 0", d.quote(0, 1, 1, 1, 1), BAD);
        u.check("19: weight 100001", d.quote(100001, 1, 1, 1, 1), BAD);
        u.check("19: weight MIN", d.quote(LOW, 1, 1, 1, 1), BAD);
        int[] sides = {0, 2001, -1, LOW, HIGH};
        for (int side : sides) {
            u.check("19: a " + side, d.quote(1, side, 1, 1, 1), BAD);
            u.check("19: b " + side, d.quote(1, 1, side, 1, 1), BAD);
            u.check("19: c " + side, d.quote(1, 1, 1, side, 1), BAD);
        }
        u.check("19: zone 4", d.quote(1, 1, 1, 1, 4), BAD);
        u.check("19: zone -1", d.quote(1, 1, 1, 1, -1), BAD);
        u.check("19: no bands", d.quote(1, 1, 1, 1, 0), STATE);
        u.check("19: BAD ahead of STATE", d.quote(0, 1, 1, 1, 0), BAD);
        due("19: no parcel", d.parcels(), 0);
        d.undo();
        due("19: no act", d.undo(), 0);
    }

    private static void promise19Weights() {
        ParcelDesk d = new ParcelDesk();
        d.set(7, 1);
        d.set(6, 9999);
        int[] limits = {1, 2, 3, 4, 5, 6};
        for (int limit : limits) {
            d.band(0, limit, limit);
        }
        due("19: 1 by 1 by 1, rounded up", d.quote(1, 1, 1, 1, 0), 1);
        due("19: 9 cm are below a gram", d.quote(1, 10, 10, 90, 0), 1);
        due("19: 10 cm are above a gram", d.quote(1, 10, 10, 91, 0), 2);
        due("19: 11 mm are 2 cm", d.quote(1, 11, 20, 30, 0), 2);
        due("19: of both", d.quote(1, 11, 21, 41, 0), 4);
        due("19: the real weight", d.quote(5, 11, 21, 41, 0), 5);
        d.set(6, 1000);
        due("19: the divisor as it is now", d.quote(1, 11, 11, 1, 0), 4);
        d.set(7, 3);
        due("19: the unit as it is now", d.quote(1, 1, 1, 1, 0), 3);
        due("19: a multiple already", d.quote(3, 1, 1, 1, 0), 3);
        due("19: rounded up", d.quote(4, 1, 1, 1, 0), 6);
        d.set(7, 1000);
        d.setExtra(0, 10000);
        due("19: the greatest of all", d.quote(1, 2000, 2000, 2000, 0), 6 + 8000 * 10000);
    }

    private static void promise19Bands() {
        ParcelDesk d = new ParcelDesk();
        d.set(7, 1);
        d.band(0, 1000, 10);
        d.band(0, 2000, 20);
        due("19: at the limit", d.quote(1000, 1, 1, 1, 0), 10);
        due("19: above it", d.quote(1001, 1, 1, 1, 0), 20);
        due("19: at the last one", d.quote(2000, 1, 1, 1, 0), 20);
        due("19: a begun 1000", d.quote(2001, 1, 1, 1, 0), 120);
        due("19: a whole 1000", d.quote(3000, 1, 1, 1, 0), 120);
        due("19: a second one", d.quote(3001, 1, 1, 1, 0), 220);
        d.setExtra(0, 7);
        due("19: the extra price as it is now", d.quote(3001, 1, 1, 1, 0), 34);
        d.setExtra(0, 0);
        due("19: without an extra price", d.quote(100000, 1, 1, 1, 0), 20);
        d.unband(0, 0);
        due("19: the bands as they are now", d.quote(1000, 1, 1, 1, 0), 20);
    }

    private static void promise20() {
        ParcelDesk d = new ParcelDesk();
        d.band(2, 1000, 300);
        rule(d, "w>0?+5");
        take(d, 1234, 100, 251, 30, 2);
        int[] want = {1230, 100, 251, 30, 2, 156, 1300, 400, 405, 511, NONE};
        for (int i = 0; i <= 10; i++) {
            due("20: parcel(0, " + i + ")", d.parcel(0, i), want[i]);
        }
        d.set(6, 1000);
        d.set(7, 1000);
        d.unband(2, 0);
        d.unrule();
        for (int i = 0; i <= 10; i++) {
            due("20: as it was worked out, " + i, d.parcel(0, i), want[i]);
        }
        due("20: what -1", d.parcel(0, -1), BAD);
        due("20: what 11", d.parcel(0, 11), BAD);
        due("20: what MAX", d.parcel(0, HIGH), BAD);
        due("20: parcel 1", d.parcel(1, 0), BAD);
        due("20: parcel -1", d.parcel(-1, 0), BAD);
        due("20: parcel MIN", d.parcel(LOW, LOW), BAD);
        d.band(2, 1, 1);
        d.dispute(0, 1, 7);
        due("20: its open note", d.parcel(0, 10), 0);
        d.settle(0, false);
        due("20: none open", d.parcel(0, 10), NONE);
        d.dispute(0, 1, 7);
        due("20: its open note", d.parcel(0, 10), 1);
        ParcelDesk longest = fine();
        take(longest, 10, 7, 8, 9, 0);
        take(longest, 10, 9, 7, 8, 0);
        take(longest, 10, 8, 9, 7, 0);
        for (int i = 0; i < 3; i++) {
            due("20: girth", longest.parcel(i, 9), 9 + 2 * 15);
        }
        due("20: no act", longest.undo(), 3);
    }

    private static void promise21() {
        ParcelDesk d = fine();
        d.unband(0, 0);
        d.set(6, 1000);
        d.band(0, 4, 1);
        d.band(0, 5, 2);
        d.band(0, 6, 3);
        for (int i = 0; i < 8; i++) {
            rule(d, i % 2 == 0 ? "r>3?+1" : "r<9?+1");
        }
        take(d, 9, 10, 10, 40, 0);
        d.set(5, 0);
        take(d, 4, 10, 20, 20, 0);
        take(d, 2, 10, 20, 30, 0);
        reasons(d, 0, 1, 20, 30, 32, 34, 36);
        reasons(d, 1, 3, 10, 30, 31, 32, 33, 34, 35, 36, 37);
        reasons(d, 2, 2, 12, 31, 33, 35, 37);
        d.unrule();
        d.band(0, 1, 0);
        reasons(d, 2, 2, 12, 31, 33, 35, 37);
        due("21: -1", d.why(0, -1), BAD);
        due("21: MIN", d.why(0, LOW), BAD);
        due("21: MAX", d.why(0, HIGH), NONE);
        due("21: parcel 3", d.why(3, 0), BAD);
        due("21: parcel -1", d.why(-1, 0), BAD);
        due("21: BAD ahead of NONE", d.why(3, 99), BAD);
    }

    private static void reasons(ParcelDesk d, int parcel, int... want) {
        for (int i = 0; i < want.length; i++) {
            due("21: why(" + parcel + ", " + i + ")", d.why(parcel, i), want[i]);
        }
        due("21: no more of " + parcel, d.why(parcel, want.length), NONE);
    }

    private static void promise22() {
        ParcelDesk d = fine();
        due("22: none", d.parcels(), 0);
        take(d, 100, 1, 1, 1, 0);
        due("22: one", d.parcels(), 1);
        d.take(1, 1, 1, 1);
        due("22: not with an error", d.parcels(), 1);
        d.take(1, 1, 1, 0);
        due("22: two", d.parcels(), 2);
        d.undo();
        due("22: undone", d.parcels(), 1);
    }

    private static void promise23() {
        ParcelDesk d = fine();
        take(d, 1000, 10, 20, 35, 0);
        take(d, 7, 11, 21, 91, 0);
        take(d, 29999, 2000, 2000, 1999, 0);
        dueFloat("23: 1000 by 8", d.density(0), 125f);
        dueFloat("23: 7 by 60", d.density(1), 7f / 60f);
        dueFloat("23: 29999 by 8000000", d.density(2), 29999f / 8000000f);
        dueFloat("23: parcel 3", d.density(3), -1f);
        dueFloat("23: parcel -1", d.density(-1), -1f);
        dueFloat("23: parcel MAX", d.density(HIGH), -1f);
        d.dispute(0, 0, 10);
        dueFloat("23: not by an open note", d.density(0), 125f);
        d.settle(0, true);
        dueFloat("23: by an accepted one", d.density(0), 1.25f);
    }

    // ---- disputes

    private static void promise24() {
        ParcelDesk d = fine();
        take(d, 100, 10, 10, 10, 0);
        rule(d, "r>500?+10");
        rule(d, "l>500?+200");
        due("24: the real weight", d.dispute(0, 0, 100000), 0);
        due("24: its claim", d.note(0, 3), 1010);
        due("24: the parcel stays", d.parcel(0, 0), 100);
        due("24: the charge stays", d.parcel(0, 8), 1000);
        due("24: its open note", d.parcel(0, 10), 0);
        d.unrule();
        due("24: not anew", d.note(0, 3), 1010);
        Unchanged u = new Unchanged(d);
        u.check("24: an open note", d.dispute(0, 1, 5), STATE);
        d.settle(0, false);
        due("24: the value that there is", d.dispute(0, 3, 10), 1);
        due("24: an act", d.undo(), 3);
        due("24: an act", d.notes(), 1);
        u = new Unchanged(d);
        u.check("24: parcel 1", d.dispute(1, 0, 1), BAD);
        u.check("24: parcel -1", d.dispute(-1, 0, 1), BAD);
        u.check("24: what 4", d.dispute(0, 4, 1), BAD);
        u.check("24: what -1", d.dispute(0, -1, 1), BAD);
        u.check("24: weight 0", d.dispute(0, 0, 0), BAD);
        u.check("24: weight 100001", d.dispute(0, 0, 100001), BAD);
        for (int what = 1; what <= 3; what++) {
            u.check("24: side 0", d.dispute(0, what, 0), BAD);
            u.check("24: side 2001", d.dispute(0, what, 2001), BAD);
        }
        u.check("24: far", d.dispute(HIGH, HIGH, HIGH), BAD);
        u.check("24: far", d.dispute(LOW, LOW, LOW), BAD);
        due("24: a side of 2000", d.dispute(0, 3, 2000), 1);
    }

    private static void promise24Order() {
        ParcelDesk d = fine();
        take(d, 100, 10, 10, 10, 0);
        for (int i = 0; i < 20; i++) {
            due("24: note " + i, d.dispute(0, 1, 1 + i), i);
            due("24: settled", d.settle(i, false), 0);
        }
        Unchanged u = new Unchanged(d);
        u.check("24: FULL", d.dispute(0, 1, 1), FULL);
        u.check("24: BAD ahead of FULL", d.dispute(0, 1, 2001), BAD);
        d.unband(0, 0);
        u = new Unchanged(d);
        u.check("24: STATE ahead of FULL", d.dispute(0, 1, 1), STATE);
        u.check("24: BAD ahead of STATE", d.dispute(0, 1, 0), BAD);
        ParcelDesk open = fine();
        take(open, 100, 10, 10, 10, 0);
        open.dispute(0, 0, 5);
        open.unband(0, 0);
        u = new Unchanged(open);
        u.check("24: BAD ahead of an open note", open.dispute(0, 4, 1), BAD);
        u.check("24: an open note and no bands", open.dispute(0, 0, 1), STATE);
        due("24: settled without bands", open.settle(0, true), 0);
        due("24: as worked out", open.parcel(0, 0), 5);
    }

    private static void promise25() {
        ParcelDesk d = new ParcelDesk();
        d.set(2, 1);
        d.set(7, 1);
        d.band(0, 1000, 100);
        d.band(0, 2000, 250);
        rule(d, "r>1500?+1000");
        take(d, 1600, 100, 100, 100, 0);
        due("25: charge", d.parcel(0, 8), 1250);
        d.dispute(0, 0, 150);
        d.set(6, 1000);
        d.set(7, 1000);
        d.unrule();
        d.band(0, 1000, 5);
        due("25: accepted", d.settle(0, true), 1150);
        int[] want = {150, 100, 100, 100, 0, 200, 200, 100, 100, 500, NONE};
        for (int i = 0; i <= 10; i++) {
            due("25: parcel(0, " + i + ")", d.parcel(0, i), want[i]);
        }
        reasons(d, 0, 2, 10);
        due("25: refunded", d.note(0, 5), 1150);
        due("25: accepted", d.note(0, 4), 1);
        Unchanged u = new Unchanged(d);
        u.check("25: not open", d.settle(0, true), STATE);
        u.check("25: not open", d.settle(0, false), STATE);
        u.check("25: note 1", d.settle(1, true), BAD);
        u.check("25: note -1", d.settle(-1, false), BAD);
        u.check("25: far", d.settle(HIGH, true), BAD);
        d.dispute(0, 2, 2000);
        due("25: a greater charge", d.settle(1, true), 100 - 2050);
        due("25: less than 0", d.note(1, 5), -1950);
        reasons(d, 0, 2, 20);
        d.dispute(0, 2, 1);
        due("25: rejected", d.settle(2, false), 0);
        due("25: the parcel stays", d.parcel(0, 2), 2000);
        due("25: rejected", d.note(2, 4), 2);
        due("25: nothing refunded", d.note(2, 5), 0);
        due("25: an act", d.undo(), 3);
        due("25: open again", d.parcel(0, 10), 2);
        errorLookingRefund();
    }

    /** A refund that is as great as an error's number is an act all the same. */
    private static void errorLookingRefund() {
        ParcelDesk d = fine();
        take(d, 50, 1, 1, 1, 0);
        rule(d, "l>1?*99999");
        rule(d, "l>1?*10010");
        rule(d, "l>1?+12");
        d.dispute(0, 1, 2);
        due("25: a refund of BAD's number", d.settle(0, true), BAD);
        due("25: accepted all the same", d.parcel(0, 8), 1001001);
        due("25: undone", d.undo(), 3);
        due("25: undone", d.parcel(0, 8), 1000);
    }

    private static void promise26() {
        ParcelDesk d = fine();
        rule(d, "l>99?+40");
        take(d, 100, 10, 10, 10, 0);
        d.take(10, 10, 100, 0);
        d.dispute(1, 3, 20);
        int[] open = {1, 3, 20, 1000, 0, 0};
        int[] accepted = {1, 3, 20, 1000, 1, 40};
        for (int i = 0; i < 6; i++) {
            due("26: open, " + i, d.note(0, i), open[i]);
        }
        d.settle(0, true);
        d.dispute(0, 0, 30);
        for (int i = 0; i < 6; i++) {
            due("26: accepted, " + i, d.note(0, i), accepted[i]);
        }
        due("26: what 6", d.note(0, 6), BAD);
        due("26: what -1", d.note(0, -1), BAD);
        due("26: note 2", d.note(2, 0), BAD);
        due("26: note -1", d.note(-1, 0), BAD);
        due("26: far", d.note(HIGH, LOW), BAD);
        due("26: no act", d.undo(), 3);
        due("26: no act", d.notes(), 1);
    }

    private static void promise27() {
        ParcelDesk d = fine();
        due("27: none", d.notes(), 0);
        take(d, 100, 10, 10, 10, 0);
        d.take(10, 10, 10, 0);
        d.dispute(0, 1, 5);
        due("27: one", d.notes(), 1);
        d.dispute(0, 1, 5);
        due("27: not with an error", d.notes(), 1);
        d.dispute(1, 1, 5);
        due("27: two", d.notes(), 2);
        d.settle(0, true);
        due("27: also settled ones", d.notes(), 2);
        d.undo();
        d.undo();
        due("27: undone", d.notes(), 1);
    }

    private static void promise28() {
        ParcelDesk d = new ParcelDesk();
        for (int i = 0; i < 5; i++) {
            due("28: empty", d.sum(i), 0);
        }
        d.band(0, 5000, 700);
        rule(d, "r>1000?+50");
        take(d, 2000, 10, 10, 10, 0);
        take(d, 1010, 100, 100, 505, 0);
        take(d, 20, 100, 100, 100, 0);
        take(d, 200, 100, 100, 100, 0);
        due("28: charges", d.sum(0), 750 + 750 + 700 + 700);
        due("28: refunds", d.sum(1), 0);
        due("28: real weights", d.sum(2), 2000 + 1010 + 20 + 200);
        due("28: billed weights", d.sum(3), 2000 + 1100 + 200 + 200);
        due("28: by the dimensional weight", d.sum(4), 2);
        d.dispute(0, 0, 900);
        d.settle(0, true);
        d.dispute(2, 0, 1001);
        d.settle(1, true);
        d.dispute(3, 0, 1001);
        d.settle(2, true);
        due("28: charges", d.sum(0), 700 + 750 + 750 + 750);
        due("28: refunds", d.sum(1), 50 - 50 - 50);
        due("28: real weights", d.sum(2), 900 + 1010 + 1001 + 1001);
        due("28: billed weights", d.sum(3), 900 + 1100 + 1100 + 1100);
        due("28: by the dimensional weight", d.sum(4), 1);
        d.undo();
        due("28: refunds undone", d.sum(1), 0);
        d.settle(2, true);
        d.dispute(0, 0, 1);
        d.settle(3, true);
        due("28: the first one, too", d.sum(4), 1);
        d.dispute(0, 2, 200);
        d.settle(4, true);
        due("28: the first one, too", d.sum(4), 2);
        due("28: -1", d.sum(-1), BAD);
        due("28: 5", d.sum(5), BAD);
        due("28: MIN", d.sum(LOW), BAD);
        due("28: MAX", d.sum(HIGH), BAD);

        ParcelDesk rich = fine();
        for (int i = 0; i < 8; i++) {
            rule(rich, "w>0?*99999");
        }
        weigh(rich, 100);
        for (int i = 0; i < 30; i++) {
            rich.take(1, 1, 1, 0);
        }
        due("28: more than an int", rich.sum(0), 30000000000L);
    }

    // ---- what would be cheaper

    private static void promise29() {
        ParcelDesk d = fine();
        due("29: parcel 0", d.lighter(0), BAD);
        due("29: parcel -1", d.lighter(-1), BAD);
        due("29: parcel MAX", d.lighter(HIGH), BAD);
        take(d, 1500, 10, 10, 10, 0);
        due("29: nothing cheaper", d.lighter(0), NONE);
        d.band(0, 999, 900);
        due("29: the bands as they are now", d.lighter(0), 501);
        rule(d, "r>1498?+1");
        due("29: a rule", d.lighter(0), 2);
        d.unrule();
        rule(d, "r=1499?-1");
        due("29: just one weight", d.lighter(0), 1);
        d.unrule();
        rule(d, "w<1000?+101");
        due("29: not cheaper", d.lighter(0), NONE);
        d.unrule();
        rule(d, "w=1?-950");
        d.unband(0, 0);
        due("29: down to a gram", d.lighter(0), 1499);
        d.unrule();
        rule(d, "r<1?-950");
        due("29: not below a gram", d.lighter(0), NONE);
        d.unrule();
        rule(d, "r>1000&r<1200|~r>300?-1");
        due("29: the least", d.lighter(0), 301);
        d.set(7, 100);
        rule(d, "w<1500?-5");
        due("29: the unit", d.lighter(0), 100);
        d.unband(0, 0);
        due("29: no bands", d.lighter(0), STATE);

        ParcelDesk extra = fine();
        extra.unband(0, 0);
        extra.band(0, 500, 5);
        take(extra, 2600, 10, 10, 10, 0);
        due("29: an extra price less", extra.lighter(0), 100);
        extra.set(7, 1000);
        due("29: billed by 1000", extra.lighter(0), 600);
        extra.set(6, 1000);
        extra.dispute(0, 1, 2000);
        extra.settle(0, true);
        due("29: the dimensional weight is 200", extra.lighter(0), 600);
        extra.dispute(0, 2, 150);
        extra.settle(1, true);
        due("29: the dimensional weight is 3000", extra.lighter(0), NONE);
        due("29: BAD ahead of STATE", extra.lighter(1), BAD);
        due("29: no act", extra.undo(), 3);
        leaps();
        ParcelDesk one = fine();
        one.set(5, 0);
        rule(one, "r<1?-950");
        take(one, 1, 10, 10, 10, 0);
        due("29: a gram", one.lighter(0), NONE);
    }

    /** Turns of a condition or of the base that lie just at the weight do not end the search. */
    private static void leaps() {
        ParcelDesk d = fine();
        take(d, 1500, 10, 10, 10, 0);
        rule(d, "r<1501?+1");
        rule(d, "r<1000?-1");
        due("29: beyond a turn at the weight", d.lighter(0), 501);
        d.unrule();
        d.unrule();
        d.set(6, 1000);
        d.dispute(0, 1, 2000);
        d.settle(0, true);
        d.dispute(0, 2, 90);
        d.settle(1, true);
        due("29: the dimensional weight", d.parcel(0, 5), 1800);
        d.band(0, 1500, 900);
        rule(d, "~r>1400?-1");
        due("29: beyond a band at the weight", d.lighter(0), 100);
    }

    private static void promise30() {
        ParcelDesk d = fine();
        d.set(6, 1000);
        due("30: parcel 0", d.shorter(0, 1), BAD);
        take(d, 20, 95, 40, 30, 0);
        due("30: side 0", d.shorter(0, 0), BAD);
        due("30: side 4", d.shorter(0, 4), BAD);
        due("30: side MIN", d.shorter(0, LOW), BAD);
        due("30: parcel -1", d.shorter(-1, 1), BAD);
        due("30: nothing cheaper", d.shorter(0, 1), NONE);
        d.band(0, 90, 900);
        due("30: dimensional weight 120 to 84", d.shorter(0, 1), 25);
        due("30: 120 to 90", d.shorter(0, 2), 10);
        due("30: 120 to 80", d.shorter(0, 3), 10);
        d.dispute(0, 0, 91);
        d.settle(0, true);
        due("30: the real weight counts", d.shorter(0, 1), NONE);
        rule(d, "l>92?+5");
        due("30: the longest side", d.shorter(0, 1), 3);
        due("30: not the longest one", d.shorter(0, 2), NONE);
        rule(d, "g<234?-10");
        due("30: girth 235, by its longest side", d.shorter(0, 1), 2);
        due("30: girth 235, by another side", d.shorter(0, 3), 1);
        d.unrule();
        d.unrule();
        rule(d, "g=139?-10");
        due("30: down to a millimeter", d.shorter(0, 1), NONE);
        d.unrule();
        rule(d, "g=177?-10");
        due("30: down to a millimeter", d.shorter(0, 3), 29);
        d.unrule();
        rule(d, "g=175?-10");
        due("30: not below a millimeter", d.shorter(0, 3), NONE);
        d.unband(0, 0);
        d.unband(0, 0);
        due("30: no bands", d.shorter(0, 1), STATE);
        due("30: BAD ahead of STATE", d.shorter(0, 4), BAD);
        due("30: BAD ahead of STATE", d.shorter(1, 1), BAD);
        due("30: no act", d.undo(), 3);
        due("30: no act", d.bandAt(0, 0, 0), 100000);
    }

    private static void promise31() {
        ParcelDesk d = fine();
        due("31: parcel 0", d.cheapest(0), BAD);
        due("31: parcel MAX", d.cheapest(HIGH), BAD);
        take(d, 800, 10, 10, 10, 0);
        due("31: the only zone", d.cheapest(0), 0);
        d.band(3, 1000, 999);
        due("31: a cheaper one", d.cheapest(0), 3);
        d.band(1, 1000, 999);
        due("31: of several the smallest number", d.cheapest(0), 1);
        rule(d, "z=1?+2");
        due("31: by rules", d.cheapest(0), 3);
        d.band(2, 100, 0);
        due("31: by extra prices", d.cheapest(0), 2);
        d.unband(0, 0);
        due("31: its own zone without bands", d.cheapest(0), 2);
        d.unband(1, 0);
        d.unband(2, 0);
        d.unband(3, 0);
        due("31: no bands", d.cheapest(0), NONE);
        d.undo();
        d.band(1, 1000, 50);
        rule(d, "l>10&z=1?+2000");
        d.load(800);
        d.tick(3);
        d.take(11, 1, 1, 1);
        due("31: of the first parcel", d.cheapest(0), 1);
        due("31: of the second parcel", d.cheapest(1), 3);
        d.unrule();
        d.unband(1, 0);
        d.unband(3, 0);
        due("31: BAD ahead of NONE", d.cheapest(2), BAD);
        due("31: the parcel stays", d.parcel(0, 4), 0);
        due("31: no act", d.undo(), 3);
        due("31: no act", d.cheapest(0), 3);
    }

    // ---- history

    private static void promise32() {
        ParcelDesk d = new ParcelDesk();
        due("32: none", d.undo(), NONE);
        for (int i = 1; i <= 6; i++) {
            d.set(0, i);
        }
        for (int i = 5; i >= 2; i--) {
            due("32: left", d.undo(), i - 2);
            due("32: restored", d.setting(0), i);
        }
        due("32: the oldest ones are dropped", d.undo(), NONE);
        due("32: it stays", d.setting(0), 2);
        d.set(0, 2);
        due("32: an act that changes nothing", d.undo(), 0);
        d.set(0, 9);
        d.set(0, 10);
        d.undo();
        d.set(0, 11);
        due("32: from there on", d.undo(), 1);
        due("32: from there on", d.setting(0), 9);
        due("32: from there on", d.undo(), 0);
        due("32: from there on", d.setting(0), 2);
        d.type('w');
        d.set(1, 1);
        d.type('w');
        d.undo();
        due("32: but not the buffer", d.clear(), 2);
    }

    /** Each act is undone whole, readings and the tracking count among it. */
    private static void promise32All() {
        ParcelDesk d = fine();
        d.set(5, 0);
        weigh(d, 700);
        rule(d, "w>0?+1");
        rule(d, "w>1?+20");
        d.band(1, 5, 6);
        d.take(10, 10, 10, 0);
        d.dispute(0, 0, 50);
        due("32: a rule undone is gone", undone(d, "unrule", d.fingerprint(), d.unrule()), 1);
        undone(d, "rule", d.fingerprint(), rule(d, "z<4?*5"));
        due("32: rules", d.quote(1, 1, 1, 1, 0), 1001);
        undone(d, "tick", d.fingerprint(), d.tick(7));
        undone(d, "load", d.fingerprint(), d.load(9));
        undone(d, "tare", d.fingerprint(), d.tare());
        undone(d, "band", d.fingerprint(), d.band(1, 3, 3));
        undone(d, "band", d.fingerprint(), d.band(1, 5, 3));
        undone(d, "unband", d.fingerprint(), d.unband(1, 0));
        undone(d, "setExtra", d.fingerprint(), d.setExtra(1, 3));
        undone(d, "take", d.fingerprint(), d.take(3, 3, 3, 1));
        undone(d, "settle", d.fingerprint(), d.settle(0, true));
        undone(d, "settle", d.fingerprint(), d.settle(0, false));
        undone(d, "set", d.fingerprint(), d.set(6, 1000));
        weigh(d, 20);
        d.tare();
        undone(d, "zero", d.fingerprint(), d.zero());
        due("32: the claim is as it was", d.settle(0, true), 0);
        due("32: the claim is as it was", d.parcel(0, 6), 50);
    }

    private static int undone(ParcelDesk d, String act, long before, int answer) {
        if (answer <= BAD) {
            due("32: " + act, answer, 0);
        }
        d.undo();
        due("32: " + act + " undone", d.fingerprint(), before);
        return answer;
    }

    private static void promise33() {
        ParcelDesk d = new ParcelDesk();
        long print = 191;
        int[] start = {0, 0, 10, 30000, 10, 5, 5000, 100, 0, 0, 0, 0, 0, 0, 0, 0, 0, 0, 0,
            0, 100, 0, 100, 0, 100, 0, 100, 0, 0, 0, 0, 0, 0, 0, 0};
        for (int number : start) {
            print = 31 * print + number;
        }
        due("33: a new desk", d.fingerprint(), print);
        d.type('w');
        due("33: not the buffer", d.fingerprint(), print);
        d.set(0, 0);
        due("33: not the history", d.fingerprint(), print);
        d.clear();
        d.set(2, 1);
        d.set(7, 1);
        d.band(1, 1000, 50);
        d.band(1, 2000, 60);
        d.setExtra(2, 9);
        rule(d, "w>0?+1");
        take(d, 1500, 10, 20, 30, 1);
        d.take(10, 10, 10, 1);
        d.dispute(1, 0, 900);
        d.settle(0, true);
        d.dispute(0, 3, 7);
        long[] numbers = {0, 0, 1, 30000, 10, 5, 5000, 1,
            3, 1500, 1500, 1500, 0, 0, 0, 1, 0, 0, 1500,
            0, 100, 2, 1000, 50, 2000, 60, 100, 0, 9, 0, 100,
            1, 2,
            1500, 10, 20, 30, 1, 2, 1500, 60, 61, 90, 1, 1, 11, 30,
            900, 10, 10, 10, 1, 1, 900, 50, 51, 50, NONE, 1, 10, 30,
            2, 1, 0, 900, 51, 1, 10, 0, 3, 7, 61, 0, 0,
            112, 10, 2400, 2400, 0};
        print = 191;
        for (long number : numbers) {
            print = 31 * print + number;
        }
        due("33: in this order", d.fingerprint(), print);
        due("33: no act", d.fingerprint(), print);
    }
}
