import java.io.IOException;
import java.nio.file.Files;
import java.nio.file.Path;
import java.util.ArrayList;
import java.util.LinkedHashSet;
import java.util.List;
import java.util.Set;

/**
 * What the tests of the edges share: desks in known states, comparisons of a desk with a twin that
 * was not asked, and the sentences of the document, of which each must have its own test.
 */
final class Desks {
    static final int BAD = -1000001;
    static final int STATE = -1000002;
    static final int FULL = -1000003;
    static final int NONE = -1000009;
    static final int LOW = Integer.MIN_VALUE;
    static final int HIGH = Integer.MAX_VALUE;

    interface Setup {
        void on(ParcelDesk d);
    }

    interface Call {
        long on(ParcelDesk d);
    }

    interface CallOf {
        long on(ParcelDesk d, int value);
    }

    private interface Look {
        List<Long> at(ParcelDesk d);
    }

    private static final Path DOCUMENT = Path.of("../shared/DOC.md");
    private static final Set<String> said = new LinkedHashSet<>();
    private static String section = "";
    private static String sentence = "";
    private static int wrong = 0;
    private static int tested = 0;

    private Desks() {
    }

    // ---- sentences

    static void section(String title) {
        section = title;
    }

    /** What follows tests this sentence, which stands just so in the section of the document. */
    static void says(String text) {
        sentence = text;
        if (!said.add(section + " | " + text)) {
            fail("the sentence has two tests");
        }
    }

    /** A sentence of the section that names no edge. */
    static void namesNoEdge(String text) {
        says(text);
    }

    static void due(String what, long got, long want) {
        tested++;
        if (got != want) {
            fail(what + " answered " + got + ", due is " + want);
        }
    }

    private static void same(String what, Object got, Object want) {
        tested++;
        if (!got.equals(want)) {
            fail(what + " left " + got + ", due is " + want);
        }
    }

    private static void fail(String what) {
        wrong++;
        System.out.println("[" + section + "] " + sentence + "\n    " + what);
    }

    /** Ends the test; every sentence of these sections must have been said. */
    static void end(String sections) throws IOException {
        if (Files.exists(DOCUMENT)) {
            compareSentences(sections);
        } else {
            System.out.println("the document is not there: its sentences are not compared");
        }
        System.out.println(wrong == 0 ? "all " + tested + " are as due" : wrong + " are not as due");
        if (wrong != 0) {
            System.exit(1);
        }
    }

    private static void compareSentences(String sections) throws IOException {
        Set<String> written = new LinkedHashSet<>();
        for (String line : sentencesOf(Files.readString(DOCUMENT))) {
            if (line.matches("(?s)(" + sections + ").*")) {
                written.add(line);
            }
        }
        sentence = "";
        for (String line : written) {
            if (!said.contains(line)) {
                fail("has no test: " + line);
            }
        }
        for (String line : said) {
            if (!written.contains(line)) {
                fail("does not stand in the document: " + line);
            }
        }
    }

    private static List<String> sentencesOf(String document) {
        List<String> all = new ArrayList<>();
        String title = "";
        boolean isCode = false;
        for (String line : document.split("\r?\n")) {
            if (line.startsWith("```")) {
                isCode = !isCode;
            } else if (line.startsWith("#")) {
                title = line.replaceAll("^#+ *", "");
            } else if (!isCode && !line.isBlank()) {
                String[] parts = line.startsWith("- ") ? new String[] {line}
                    : line.split("(?<=\\.) (?=[A-Z(])");
                for (String part : parts) {
                    all.add(title + " | " + part);
                }
            }
        }
        return all;
    }

    // ---- desks

    static ParcelDesk make(Setup setup) {
        ParcelDesk d = new ParcelDesk();
        setup.on(d);
        return d;
    }

    static void write(ParcelDesk d, String text) {
        d.clear();
        for (int i = 0; i < text.length(); i++) {
            d.type(text.charAt(i));
        }
    }

    static int rule(ParcelDesk d, String text) {
        write(d, text);
        return d.rule();
    }

    /** Lays a load on the scale and waits until it is steady. */
    static void weigh(ParcelDesk d, int load) {
        d.load(load);
        d.tick(3);
    }

    static int take(ParcelDesk d, int load, int a, int b, int c, int zone) {
        weigh(d, load);
        return d.take(a, b, c, zone);
    }

    static void fresh(ParcelDesk d) {
    }

    /**
     * Grams count one by one, the dimensional weight is the volume, the zero stays where it is put,
     * and the one band of each zone, for 1000, holds every real weight.
     */
    static void fine(ParcelDesk d) {
        d.set(2, 1);
        d.set(5, 0);
        d.set(6, 1000);
        d.set(7, 1);
        for (int zone = 0; zone < 4; zone++) {
            d.band(zone, 100000, 1000);
        }
    }

    /** One parcel, on a scale that is steady. */
    static void one(ParcelDesk d) {
        fine(d);
        take(d, 900, 30, 20, 10, 0);
    }

    /**
     * Of everything something: two parcels with notes in all three states, a rule's text in the
     * buffer, two readings, a tracking count of 2 and a history that dropped states; zone 3 has no
     * bands.
     */
    static void busy(ParcelDesk d) {
        d.set(2, 1);
        d.set(7, 10);
        d.set(3, 20000);
        d.band(0, 1000, 300);
        d.band(0, 5000, 900);
        d.band(1, 800, 250);
        d.band(1, 900, 260);
        d.band(2, 100000, 40);
        d.setExtra(1, 70);
        rule(d, "w>1000&~z=2?+55");
        rule(d, "l>250|r<500?*900");
        weigh(d, 40);
        d.zero();
        take(d, 1240, 100, 200, 300, 0);
        d.tare();
        take(d, 2000, 260, 30, 40, 1);
        d.dispute(0, 0, 700);
        d.settle(0, true);
        d.dispute(1, 2, 900);
        d.settle(1, false);
        d.dispute(1, 1, 20);
        d.set(5, 100);
        d.set(0, 1);
        d.load(100);
        d.tick(2);
        write(d, "z=1?-9");
    }

    /** As busy, but steady, with a net weight. */
    static void ready(ParcelDesk d) {
        busy(d);
        d.set(4, 100);
        weigh(d, 3000);
    }

    /** Of everything as much as there can be; all but two of the notes are open. */
    static void full(ParcelDesk d) {
        d.set(2, 1);
        d.set(7, 1);
        for (int zone = 0; zone < 4; zone++) {
            for (int i = 1; i <= 6; i++) {
                d.band(zone, 400 * i, 10 * i + zone);
            }
        }
        for (int i = 0; i < 8; i++) {
            rule(d, "r>" + 100 * i + "?+" + (i + 1));
        }
        weigh(d, 950);
        for (int i = 0; i < 30; i++) {
            d.take(10 + i, 20, 30, i % 4);
        }
        for (int i = 0; i < 20; i++) {
            d.dispute(i, i % 4, 5 + i);
        }
        d.settle(0, true);
        d.settle(1, false);
        write(d, "w<1|".repeat(14) + "w<1?");
    }

    /** Fewer states in the history than it can keep. */
    static void few(ParcelDesk d) {
        d.band(1, 1000, 500);
        weigh(d, 700);
        d.type('w');
    }

    // ---- looks at a desk

    private static List<Long> now(ParcelDesk d) {
        List<Long> seen = new ArrayList<>();
        seen.add(d.fingerprint());
        for (int zone = 0; zone < 4; zone++) {
            seen.add((long) d.quote(1, 1, 1, 1, zone));
            seen.add((long) d.quote(700, 10, 20, 30, zone));
            seen.add((long) d.quote(1500, 300, 20, 30, zone));
            seen.add((long) d.quote(60000, 200, 300, 900, zone));
        }
        for (int p = 0; p < 2; p++) {
            seen.add((long) Float.floatToIntBits(d.density(p)));
            seen.add((long) d.lighter(p));
            seen.add((long) d.cheapest(p));
        }
        return seen;
    }

    /** The state now and all that undo() brings back, each behind what undo() answered. */
    private static List<List<Long>> past(ParcelDesk d) {
        List<List<Long>> seen = new ArrayList<>();
        seen.add(now(d));
        for (int i = 0; i < 6 && d.undo() != NONE; i++) {
            seen.add(now(d));
        }
        return seen;
    }

    private static List<Long> pastInARow(ParcelDesk d) {
        List<Long> seen = new ArrayList<>();
        for (List<Long> state : past(d)) {
            seen.addAll(state);
        }
        return seen;
    }

    private static List<Long> text(ParcelDesk d) {
        List<Long> seen = new ArrayList<>();
        seen.add((long) d.rule());
        seen.addAll(now(d));
        for (char c : "w>1?+7".toCharArray()) {
            seen.add((long) d.type(c));
        }
        seen.add((long) d.rule());
        seen.addAll(now(d));
        seen.add((long) d.clear());
        return seen;
    }

    private static List<Long> ticks(ParcelDesk d) {
        List<Long> seen = new ArrayList<>();
        for (int i = 0; i < 4; i++) {
            seen.add(d.fingerprint());
            seen.add((long) d.tick(1));
        }
        seen.add((long) d.tare());
        seen.add((long) d.take(1, 2, 3, 1));
        seen.add((long) d.zero());
        seen.add(d.fingerprint());
        return seen;
    }

    private static List<Long> claims(ParcelDesk d) {
        List<Long> seen = new ArrayList<>();
        int notes = d.notes();
        for (int n = 0; n < notes; n++) {
            seen.add((long) d.settle(n, true));
        }
        seen.addAll(now(d));
        return seen;
    }

    private static Look[] looks() {
        return new Look[] {Desks::pastInARow, Desks::text, Desks::ticks, Desks::claims};
    }

    // ---- what a call leaves

    /** The call is answered so and changes nothing: later calls see what they see without it. */
    static void leaves(String what, long want, Setup setup, Call call) {
        for (Look look : looks()) {
            ParcelDesk asked = make(setup);
            due(what, call.on(asked), want);
            same(what, look.at(asked), look.at(make(setup)));
        }
    }

    /** The call is answered so and adds one state to the history, which undo() restores whole. */
    static void acts(String what, long want, Setup setup, Call call) {
        ParcelDesk asked = make(setup);
        due(what, call.on(asked), want);
        List<List<Long>> got = past(asked);
        List<List<Long>> before = past(make(setup));
        same(what + ", undone,", got.subList(1, got.size()),
            before.subList(0, Math.min(before.size(), 4)));
        for (Look look : new Look[] {Desks::ticks, Desks::claims}) {
            ParcelDesk undone = make(setup);
            call.on(undone);
            undone.undo();
            same(what + ", undone,", look.at(undone), look.at(make(setup)));
        }
    }

    /** An act, too, where the history is empty, where it has room, and where it is full. */
    static void actsAnywhere(String what, Call call) {
        acts(what + " on a new desk", call.on(make(Desks::fresh)), Desks::fresh, call);
        acts(what + " on a desk with few states", call.on(make(Desks::few)), Desks::few, call);
        acts(what + " on a busy desk", call.on(make(Desks::busy)), Desks::busy, call);
        acts(what + " on a full desk", call.on(make(Desks::full)), Desks::full, call);
    }

    /** The lowest and the highest value are allowed, those beyond are BAD and change nothing. */
    static void range(String what, int lowest, int highest, Setup setup, CallOf call) {
        for (int value : new int[] {lowest, highest}) {
            long got = call.on(make(setup), value);
            due(what + " " + value + " is allowed", got == BAD ? 0 : 1, 1);
        }
        for (int value : new int[] {lowest - 1, highest + 1, LOW, HIGH, lowest + (1 << 16)}) {
            if (value < lowest || value > highest) {
                leaves(what + " " + value, BAD, setup, d -> call.on(d, value));
            }
        }
    }
}
