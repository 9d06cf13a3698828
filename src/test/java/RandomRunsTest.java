import java.util.ArrayDeque;
import java.util.ArrayList;
import java.util.List;
import java.util.Map;
import java.util.Random;
import java.util.TreeMap;

/**
 * Random runs of calls, each answered by the class and by a model that follows the words of the
 * document without any thrift: it copies whole states, reads the texts anew for each charge and
 * tries every weight.
 */
public final class RandomRunsTest {
    private static final int RUNS = 1500;
    private static final int CALLS = 512;
    private static final int BAD = -1000001;
    private static final int STATE = -1000002;
    private static final int FULL = -1000003;
    private static final int NONE = -1000009;

    public static void main(String[] args) {
        int runs = args.length > 0 ? Integer.parseInt(args[0]) : RUNS;
        for (int run = 0; run < runs; run++) {
            String wrong = new Run(run).play();
            if (wrong != null) {
                System.out.println("run " + run + ": " + wrong);
                System.exit(1);
            }
        }
        System.out.println("all answers of " + runs + " runs are as due");
    }

    // ---- the model

    private static final class Parcel implements Cloneable {
        int real;
        int[] sides = new int[3];
        int zone;
        Cost cost;

        Parcel copy() {
            Parcel p = new Parcel();
            p.real = real;
            p.sides = sides.clone();
            p.zone = zone;
            p.cost = cost;
            return p;
        }

        Parcel with(int what, int value) {
            Parcel p = copy();
            if (what == 0) {
                p.real = value;
            } else {
                p.sides[what - 1] = value;
            }
            return p;
        }

        int longest() {
            return Math.max(sides[0], Math.max(sides[1], sides[2]));
        }

        int girth() {
            int rest = sides[0] + sides[1] + sides[2] - longest();
            return longest() + 2 * rest;
        }

        long volume() {
            long volume = 1;
            for (int side : sides) {
                volume *= (long) Math.ceil(side / 10.0);
            }
            return volume;
        }
    }

    private static final class Cost {
        int dimensional;
        int billed;
        int base;
        int charge;
        List<Integer> reasons = new ArrayList<>();
    }

    private static final class Note {
        int parcel;
        int what;
        int value;
        Cost cost;
        int state;
        int refund;

        Note copy() {
            Note n = new Note();
            n.parcel = parcel;
            n.what = what;
            n.value = value;
            n.cost = cost;
            n.state = state;
            n.refund = refund;
            return n;
        }
    }

    private static final class World {
        int[] settings = {0, 0, 10, 30000, 10, 5, 5000, 100};
        int load;
        int time;
        int offset;
        int zero;
        int tare;
        int tracked;
        List<Integer> readings = new ArrayList<>();
        List<TreeMap<Integer, Integer>> bands = new ArrayList<>();
        int[] extras = {100, 100, 100, 100};
        List<String> rules = new ArrayList<>();
        List<Parcel> parcels = new ArrayList<>();
        List<Note> notes = new ArrayList<>();

        World() {
            for (int i = 0; i < 4; i++) {
                bands.add(new TreeMap<>());
            }
        }

        World copy() {
            World w = new World();
            w.settings = settings.clone();
            w.load = load;
            w.time = time;
            w.offset = offset;
            w.zero = zero;
            w.tare = tare;
            w.tracked = tracked;
            w.readings.addAll(readings);
            for (int i = 0; i < 4; i++) {
                w.bands.get(i).putAll(bands.get(i));
            }
            w.extras = extras.clone();
            w.rules.addAll(rules);
            for (Parcel p : parcels) {
                w.parcels.add(p.copy());
            }
            for (Note n : notes) {
                w.notes.add(n.copy());
            }
            return w;
        }
    }

    /** Reads a text by going down the grammar; it stops at the first place that cannot stand. */
    private static final class Text {
        final String text;
        final Map<Character, Integer> facts;
        int at = 0;
        boolean holds;
        char change;
        int amount;

        Text(String text, Map<Character, Integer> facts) {
            this.text = text;
            this.facts = facts;
        }

        /** Returns the error place, -1 if there is no error. */
        int read() {
            try {
                holds = condition();
                expect("?");
                change = expect("+-*");
                amount = number();
                if (at < text.length()) {
                    throw new IllegalStateException();
                }
                return -1;
            } catch (IllegalStateException e) {
                return at;
            }
        }

        char peek() {
            return at < text.length() ? text.charAt(at) : 0;
        }

        char expect(String allowed) {
            char c = peek();
            if (c == 0 || allowed.indexOf(c) < 0) {
                throw new IllegalStateException();
            }
            at++;
            return c;
        }

        boolean condition() {
            boolean value = part();
            while (peek() == '|') {
                at++;
                value |= part();
            }
            return value;
        }

        boolean part() {
            boolean value = term();
            while (peek() == '&') {
                at++;
                value &= term();
            }
            return value;
        }

        boolean term() {
            if (peek() == '~') {
                at++;
                return !term();
            }
            if (peek() == '(') {
                at++;
                boolean value = condition();
                expect(")");
                return value;
            }
            int fact = facts.get(expect("wrvglz"));
            char relation = expect("<=>");
            int number = number();
            return relation == '<' ? fact < number : relation == '=' ? fact == number : fact > number;
        }

        int number() {
            int start = at;
            expect("0123456789");
            while (at - start < 5 && peek() >= '0' && peek() <= '9') {
                at++;
            }
            return Integer.parseInt(text.substring(start, at));
        }
    }

    private static final class Model {
        World w = new World();
        ArrayDeque<World> past = new ArrayDeque<>();
        StringBuilder buffer = new StringBuilder();

        void act() {
            past.addLast(w.copy());
            if (past.size() > 4) {
                past.removeFirst();
            }
        }

        static boolean in(int x, int low, int high) {
            return low <= x && x <= high;
        }

        int set(int setting, int value) {
            int[] low = {-20, -20, 1, 1000, 0, 0, 1000, 1};
            int[] high = {20, 20, 100, 70000, 100, 200, 9999, 1000};
            if (!in(setting, 0, 7) || !in(value, low[setting], high[setting])) {
                return BAD;
            }
            act();
            int previous = w.settings[setting];
            w.settings[setting] = value;
            return previous;
        }

        int setting(int setting) {
            return in(setting, 0, 7) ? w.settings[setting] : BAD;
        }

        int load(int load) {
            if (!in(load, 0, 100000)) {
                return BAD;
            }
            act();
            int previous = w.load;
            w.load = load;
            w.readings.clear();
            return previous;
        }

        int raw() {
            return (int) Math.floor(w.load * (1000L + w.settings[1]) / 1000.0) + w.offset;
        }

        int gross() {
            int weight = raw() - w.zero;
            int step = w.settings[2];
            int below = weight;
            while (below % step != 0) {
                below--;
            }
            int above = below + step;
            return weight - below < above - weight ? below : above;
        }

        boolean steady() {
            int n = w.readings.size();
            if (n < 3) {
                return false;
            }
            for (int i = n - 3; i < n; i++) {
                for (int k = n - 3; k < n; k++) {
                    if (w.readings.get(i) - w.readings.get(k) > w.settings[4]) {
                        return false;
                    }
                }
            }
            return true;
        }

        boolean over() {
            return raw() - w.zero > w.settings[3];
        }

        int tick(int ticks) {
            if (!in(ticks, 1, 100)) {
                return BAD;
            }
            if (w.time + ticks > 100000) {
                return STATE;
            }
            act();
            for (int i = 0; i < ticks; i++) {
                w.time++;
                w.offset += w.settings[0];
                w.readings.add(raw());
                if (Math.abs(raw() - w.zero) <= w.settings[5]) {
                    w.tracked++;
                } else {
                    w.tracked = 0;
                }
                if (w.tracked == 3) {
                    w.zero = raw();
                    w.tracked = 0;
                }
            }
            return raw();
        }

        int zero() {
            if (!steady() || Math.abs(raw() - w.zero) > w.settings[3] / 20) {
                return STATE;
            }
            act();
            int previous = w.zero;
            w.zero = raw();
            w.tare = 0;
            return previous;
        }

        int tare() {
            if (!steady() || over() || gross() < 0) {
                return STATE;
            }
            act();
            w.tare = gross();
            return w.tare;
        }

        int scale(int what) {
            if (!in(what, 0, 10)) {
                return BAD;
            }
            int[] all = {w.time, raw(), gross(), gross() - w.tare, w.zero, w.tare, w.offset,
                steady() ? 1 : 0, over() ? 1 : 0, w.tracked, w.load};
            return all[what];
        }

        int band(int zone, int limit, int price) {
            if (!in(zone, 0, 3) || !in(limit, 1, 100000) || !in(price, 0, 100000)) {
                return BAD;
            }
            TreeMap<Integer, Integer> bands = w.bands.get(zone);
            if (!bands.containsKey(limit) && bands.size() == 6) {
                return FULL;
            }
            act();
            bands.put(limit, price);
            return bands.headMap(limit).size();
        }

        Integer limit(int zone, int index) {
            if (!in(zone, 0, 3) || !in(index, 0, w.bands.get(zone).size() - 1)) {
                return null;
            }
            return new ArrayList<>(w.bands.get(zone).keySet()).get(index);
        }

        int unband(int zone, int index) {
            Integer limit = limit(zone, index);
            if (limit == null) {
                return BAD;
            }
            act();
            w.bands.get(zone).remove(limit);
            return w.bands.get(zone).size();
        }

        int bandAt(int zone, int index, int what) {
            Integer limit = limit(zone, index);
            if (limit == null || !in(what, 0, 1)) {
                return BAD;
            }
            return what == 0 ? limit : w.bands.get(zone).get(limit);
        }

        int setExtra(int zone, int extra) {
            if (!in(zone, 0, 3) || !in(extra, 0, 10000)) {
                return BAD;
            }
            act();
            int previous = w.extras[zone];
            w.extras[zone] = extra;
            return previous;
        }

        int type(int c) {
            if (!in(c, 32, 126)) {
                return BAD;
            }
            if (buffer.length() == 60) {
                return FULL;
            }
            buffer.append((char) c);
            return buffer.length();
        }

        int clear() {
            int had = buffer.length();
            buffer.setLength(0);
            return had;
        }

        int rule() {
            Text text = new Text(buffer.toString(),
                Map.of('w', 0, 'r', 0, 'v', 0, 'g', 0, 'l', 0, 'z', 0));
            int error = text.read();
            if (error >= 0) {
                return -100 - error;
            }
            if (w.rules.size() == 8) {
                return FULL;
            }
            act();
            w.rules.add(buffer.toString());
            buffer.setLength(0);
            return w.rules.size();
        }

        int unrule() {
            if (w.rules.isEmpty()) {
                return STATE;
            }
            act();
            w.rules.remove(w.rules.size() - 1);
            return w.rules.size();
        }

        Cost cost(Parcel p) {
            Cost cost = new Cost();
            cost.dimensional = (int) Math.ceil(p.volume() * 1000L / (double) w.settings[6]);
            int weight = Math.max(p.real, cost.dimensional);
            cost.billed = weight;
            while (cost.billed % w.settings[7] != 0) {
                cost.billed++;
            }
            cost.reasons.add(p.real > cost.dimensional ? 1 : p.real < cost.dimensional ? 2 : 3);
            int i = 0;
            boolean found = false;
            int lastLimit = 0;
            for (Map.Entry<Integer, Integer> band : w.bands.get(p.zone).entrySet()) {
                if (!found) {
                    cost.base = band.getValue();
                    lastLimit = band.getKey();
                    if (band.getKey() >= cost.billed) {
                        found = true;
                        cost.reasons.add(10 + i);
                    }
                }
                i++;
            }
            if (!found) {
                cost.reasons.add(20);
                for (int more = lastLimit; more < cost.billed; more += 1000) {
                    cost.base += w.extras[p.zone];
                }
            }
            long charge = cost.base;
            for (int k = 0; k < w.rules.size(); k++) {
                Text text = new Text(w.rules.get(k), Map.of('w', cost.billed, 'r', p.real, 'v',
                    cost.dimensional, 'g', p.girth(), 'l', p.longest(), 'z', p.zone));
                text.read();
                if (text.holds) {
                    cost.reasons.add(30 + k);
                    charge = text.change == '+' ? charge + text.amount : text.change == '-'
                        ? charge - text.amount : charge * text.amount / 1000;
                    charge = Math.min(Math.max(charge, 0), 1000000000);
                }
            }
            cost.charge = (int) charge;
            return cost;
        }

        boolean noBands(int zone) {
            return w.bands.get(zone).isEmpty();
        }

        static Parcel parcelOf(int weight, int a, int b, int c, int zone) {
            Parcel p = new Parcel();
            p.real = weight;
            p.sides = new int[] {a, b, c};
            p.zone = zone;
            return p;
        }

        static boolean sides(int a, int b, int c) {
            return in(a, 1, 2000) && in(b, 1, 2000) && in(c, 1, 2000);
        }

        int take(int a, int b, int c, int zone) {
            if (!sides(a, b, c) || !in(zone, 0, 3)) {
                return BAD;
            }
            if (!steady() || over() || gross() - w.tare < 1 || noBands(zone)) {
                return STATE;
            }
            if (w.parcels.size() == 30) {
                return FULL;
            }
            act();
            Parcel p = parcelOf(gross() - w.tare, a, b, c, zone);
            p.cost = cost(p);
            w.parcels.add(p);
            return w.parcels.size() - 1;
        }

        int quote(int weight, int a, int b, int c, int zone) {
            if (!in(weight, 1, 100000) || !sides(a, b, c) || !in(zone, 0, 3)) {
                return BAD;
            }
            return noBands(zone) ? STATE : cost(parcelOf(weight, a, b, c, zone)).charge;
        }

        boolean has(int parcel) {
            return in(parcel, 0, w.parcels.size() - 1);
        }

        int openNote(int parcel) {
            for (Note n : w.notes) {
                if (n.parcel == parcel && n.state == 0) {
                    return w.notes.indexOf(n);
                }
            }
            return NONE;
        }

        int parcel(int parcel, int what) {
            if (!has(parcel) || !in(what, 0, 10)) {
                return BAD;
            }
            Parcel p = w.parcels.get(parcel);
            int[] all = {p.real, p.sides[0], p.sides[1], p.sides[2], p.zone, p.cost.dimensional,
                p.cost.billed, p.cost.base, p.cost.charge, p.girth(), openNote(parcel)};
            return all[what];
        }

        int why(int parcel, int i) {
            if (!has(parcel) || i < 0) {
                return BAD;
            }
            List<Integer> reasons = w.parcels.get(parcel).cost.reasons;
            return i < reasons.size() ? reasons.get(i) : NONE;
        }

        float density(int parcel) {
            if (!has(parcel)) {
                return -1;
            }
            Parcel p = w.parcels.get(parcel);
            return (float) p.real / (float) p.volume();
        }

        int dispute(int parcel, int what, int value) {
            if (!has(parcel) || !in(what, 0, 3) || !in(value, 1, what == 0 ? 100000 : 2000)) {
                return BAD;
            }
            if (openNote(parcel) != NONE || noBands(w.parcels.get(parcel).zone)) {
                return STATE;
            }
            if (w.notes.size() == 20) {
                return FULL;
            }
            act();
            Note n = new Note();
            n.parcel = parcel;
            n.what = what;
            n.value = value;
            n.cost = cost(w.parcels.get(parcel).with(what, value));
            w.notes.add(n);
            return w.notes.size() - 1;
        }

        int settle(int note, boolean accept) {
            if (!in(note, 0, w.notes.size() - 1)) {
                return BAD;
            }
            if (w.notes.get(note).state != 0) {
                return STATE;
            }
            act();
            Note n = w.notes.get(note);
            n.state = accept ? 1 : 2;
            if (accept) {
                Parcel p = w.parcels.get(n.parcel).with(n.what, n.value);
                n.refund = p.cost.charge - n.cost.charge;
                p.cost = n.cost;
                w.parcels.set(n.parcel, p);
            }
            return n.refund;
        }

        int note(int note, int what) {
            if (!in(note, 0, w.notes.size() - 1) || !in(what, 0, 5)) {
                return BAD;
            }
            Note n = w.notes.get(note);
            return new int[] {n.parcel, n.what, n.value, n.cost.charge, n.state, n.refund}[what];
        }

        long sum(int what) {
            if (!in(what, 0, 4)) {
                return BAD;
            }
            long[] sums = new long[5];
            for (Parcel p : w.parcels) {
                sums[0] += p.cost.charge;
                sums[2] += p.real;
                sums[3] += p.cost.billed;
                sums[4] += p.cost.dimensional > p.real ? 1 : 0;
            }
            for (Note n : w.notes) {
                sums[1] += n.refund;
            }
            return sums[what];
        }

        int lessOf(int parcel, int what) {
            if (!has(parcel)) {
                return BAD;
            }
            Parcel p = w.parcels.get(parcel);
            if (noBands(p.zone)) {
                return STATE;
            }
            int value = what == 0 ? p.real : p.sides[what - 1];
            int charge = cost(p).charge;
            for (int less = 1; value - less >= 1; less++) {
                if (cost(p.with(what, value - less)).charge < charge) {
                    return less;
                }
            }
            return NONE;
        }

        int shorter(int parcel, int side) {
            return in(side, 1, 3) ? lessOf(parcel, side) : BAD;
        }

        int cheapest(int parcel) {
            if (!has(parcel)) {
                return BAD;
            }
            int best = NONE;
            int least = Integer.MAX_VALUE;
            for (int zone = 0; zone < 4; zone++) {
                Parcel p = w.parcels.get(parcel).copy();
                p.zone = zone;
                if (!noBands(zone) && cost(p).charge < least) {
                    best = zone;
                    least = cost(p).charge;
                }
            }
            return best;
        }

        int undo() {
            if (past.isEmpty()) {
                return NONE;
            }
            w = past.removeLast();
            return past.size();
        }

        long fingerprint() {
            List<Long> all = new ArrayList<>();
            for (int i = 0; i < 8; i++) {
                all.add((long) setting(i));
            }
            for (int i = 0; i < 11; i++) {
                all.add((long) scale(i));
            }
            for (int zone = 0; zone < 4; zone++) {
                all.add((long) w.bands.get(zone).size());
                w.bands.get(zone).forEach((limit, price) -> {
                    all.add((long) limit);
                    all.add((long) price);
                });
                all.add((long) w.extras[zone]);
            }
            all.add((long) w.rules.size());
            all.add((long) w.parcels.size());
            for (int p = 0; p < w.parcels.size(); p++) {
                for (int i = 0; i < 11; i++) {
                    all.add((long) parcel(p, i));
                }
                w.parcels.get(p).cost.reasons.forEach(r -> all.add((long) r));
            }
            all.add((long) w.notes.size());
            for (int n = 0; n < w.notes.size(); n++) {
                for (int i = 0; i < 6; i++) {
                    all.add((long) note(n, i));
                }
            }
            for (int i = 0; i < 5; i++) {
                all.add(sum(i));
            }
            long print = 191;
            for (long number : all) {
                print = 31 * print + number;
            }
            return print;
        }
    }

    // ---- the runs

    private static final class Run {
        final Random random;
        final ParcelDesk desk = new ParcelDesk();
        final Model model = new Model();
        /** Some runs weigh small loads alone, so that limits and numbers are met often. */
        final int heavy;
        final int wide;
        int calls = 0;
        String wrong = null;

        Run(int seed) {
            random = new Random(seed * 7919L + 11);
            heavy = seed % 10 == 0 ? 100000 : seed % 3 == 0 ? 60 : 4000;
            wide = seed % 7 == 0 ? 2000 : seed % 2 == 0 ? 40 : 300;
        }

        int below(int bound) {
            return random.nextInt(bound);
        }

        boolean seldom() {
            return below(25) == 0;
        }

        int odd() {
            int[] odd = {-1, 0, -2, 4, 5, 8, 11, 20, 30, 2001, 100001, 1 << 30, Integer.MIN_VALUE,
                Integer.MAX_VALUE, Integer.MIN_VALUE + 1, 715827883, -715827882};
            return odd[below(odd.length)];
        }

        int from(int low, int high) {
            if (seldom()) {
                int[] edges = {low, high, low - 1, high + 1, odd()};
                return edges[below(edges.length)];
            }
            return low + below(high - low + 1);
        }

        int zone() {
            return from(0, below(3) == 0 ? 3 : 1);
        }

        int side() {
            return seldom() ? from(1, 2000) : from(1, wide);
        }

        int parcelIndex() {
            return from(0, Math.max(0, model.w.parcels.size() - 1));
        }

        int noteIndex() {
            int last = model.w.notes.size() - 1;
            return below(2) == 0 ? last : from(0, Math.max(0, last));
        }

        int weight() {
            return seldom() ? from(1, 100000) : from(1, heavy);
        }

        int settingValue(int setting) {
            int[] low = {-20, -20, 1, 1000, 0, 0, 1000, 1};
            int[] high = {20, 20, 100, 70000, 100, 200, 9999, 1000};
            if (setting < 0 || setting > 7) {
                return odd();
            }
            int[] usual = {below(3) - 1, 0, 1 + below(10), 1000 + below(5000), 20, below(10), 1000,
                1 + below(20)};
            return below(2) == 0 ? usual[setting] : from(low[setting], high[setting]);
        }

        String number() {
            int[] near = {below(5), below(50), below(1000), model.w.parcels.isEmpty() ? 7
                : model.parcel(below(model.w.parcels.size()), below(10)), weight(), below(100000)};
            String digits = "" + Math.min(99999, Math.abs(near[below(near.length)] % 100000));
            return seldom() && digits.length() < 5 ? "0" + digits : digits;
        }

        String condition(int depth) {
            int kind = depth > 3 ? 9 : below(10);
            if (kind < 2) {
                return "(" + condition(depth + 1) + ")";
            }
            if (kind == 2) {
                return "~" + condition(depth + 1);
            }
            if (kind < 5) {
                return condition(depth + 1) + "|" + condition(depth + 1);
            }
            if (kind < 7) {
                return condition(depth + 1) + "&" + condition(depth + 1);
            }
            return "" + "wrvglz".charAt(below(6)) + "<=>".charAt(below(3)) + number();
        }

        String text() {
            String text = condition(below(4)) + "?" + "+-*".charAt(below(3)) + number();
            if (below(3) == 0) {
                StringBuilder b = new StringBuilder(text);
                int at = below(b.length() + 1);
                String signs = "wrvglz<=>~()&|?+-*0123456789 x/:;@`{";
                char c = signs.charAt(below(signs.length()));
                if (below(3) == 0 || at == b.length()) {
                    b.insert(at, c);
                } else if (below(2) == 0) {
                    b.setCharAt(at, c);
                } else {
                    b.setLength(at);
                }
                return b.toString();
            }
            return text;
        }

        void due(String call, long got, long want) {
            calls++;
            if (wrong == null && got != want) {
                wrong = "call " + calls + ", " + call + " answered " + got + ", due is " + want;
            }
        }

        String play() {
            while (calls < CALLS && wrong == null) {
                step();
                if (below(12) == 0) {
                    due("fingerprint()", desk.fingerprint(), model.fingerprint());
                }
            }
            if (wrong == null) {
                due("fingerprint()", desk.fingerprint(), model.fingerprint());
            }
            return wrong;
        }

        void step() {
            int kind = below(40);
            if (kind < 10) {
                scaleStep(kind);
            } else if (kind < 18) {
                priceStep(kind - 10);
            } else if (kind < 26) {
                parcelStep(kind - 18);
            } else if (kind < 33) {
                disputeStep(kind - 26);
            } else if (kind < 37) {
                cheaperStep(kind - 33);
            } else if (kind == 37) {
                due("undo()", desk.undo(), model.undo());
            } else {
                parcelStep(7);
            }
        }

        void scaleStep(int kind) {
            if (kind < 2) {
                int setting = from(0, 7);
                int value = settingValue(setting);
                due("set(" + setting + ", " + value + ")", desk.set(setting, value),
                    model.set(setting, value));
            } else if (kind == 2) {
                int setting = from(0, 7);
                due("setting(" + setting + ")", desk.setting(setting), model.setting(setting));
            } else if (kind == 3) {
                int load = seldom() ? from(0, 100000) : from(0, heavy);
                due("load(" + load + ")", desk.load(load), model.load(load));
            } else if (kind < 6) {
                int ticks = seldom() ? from(1, 100) : from(1, 4);
                due("tick(" + ticks + ")", desk.tick(ticks), model.tick(ticks));
            } else if (kind == 6) {
                due("zero()", desk.zero(), model.zero());
            } else if (kind == 7) {
                due("tare()", desk.tare(), model.tare());
            } else {
                int what = from(0, 10);
                due("scale(" + what + ")", desk.scale(what), model.scale(what));
            }
        }

        void priceStep(int kind) {
            int zone = zone();
            if (kind < 2) {
                int limit = weight();
                int price = below(3) == 0 ? from(0, 100000) : from(0, 500);
                due("band(" + zone + ", " + limit + ", " + price + ")",
                    desk.band(zone, limit, price), model.band(zone, limit, price));
            } else if (kind == 2) {
                int index = from(0, 5);
                due("unband(" + zone + ", " + index + ")", desk.unband(zone, index),
                    model.unband(zone, index));
            } else if (kind == 3) {
                int index = from(0, 5);
                int what = from(0, 1);
                due("bandAt(" + zone + ", " + index + ", " + what + ")",
                    desk.bandAt(zone, index, what), model.bandAt(zone, index, what));
            } else if (kind == 4) {
                int extra = from(0, 10000);
                due("setExtra(" + zone + ", " + extra + ")", desk.setExtra(zone, extra),
                    model.setExtra(zone, extra));
            } else if (kind < 7) {
                writeRule();
            } else {
                due("unrule()", desk.unrule(), model.unrule());
                due("rules()", desk.rules(), model.w.rules.size());
            }
        }

        void writeRule() {
            if (below(4) != 0) {
                due("clear()", desk.clear(), model.clear());
            }
            String text = text();
            for (int i = 0; i < text.length(); i++) {
                int c = text.charAt(i);
                due("type(" + c + ")", desk.type(c), model.type(c));
            }
            if (seldom()) {
                int c = from(32, 126);
                due("type(" + c + ")", desk.type(c), model.type(c));
            }
            due("rule() of " + model.buffer, desk.rule(), model.rule());
        }

        void parcelStep(int kind) {
            int parcel = parcelIndex();
            int zone = zone();
            if (kind < 2) {
                int weight = weight();
                int a = side();
                int b = side();
                int c = side();
                due("quote(" + weight + ", " + a + ", " + b + ", " + c + ", " + zone + ")",
                    desk.quote(weight, a, b, c, zone), model.quote(weight, a, b, c, zone));
            } else if (kind == 2) {
                int what = from(0, 10);
                due("parcel(" + parcel + ", " + what + ")", desk.parcel(parcel, what),
                    model.parcel(parcel, what));
            } else if (kind == 3) {
                int i = from(0, 10);
                due("why(" + parcel + ", " + i + ")", desk.why(parcel, i), model.why(parcel, i));
            } else if (kind == 4) {
                due("density(" + parcel + ")", Float.floatToIntBits(desk.density(parcel)),
                    Float.floatToIntBits(model.density(parcel)));
                due("parcels()", desk.parcels(), model.w.parcels.size());
            } else {
                int a = side();
                int b = side();
                int c = side();
                due("take(" + a + ", " + b + ", " + c + ", " + zone + ")",
                    desk.take(a, b, c, zone), model.take(a, b, c, zone));
            }
        }

        void disputeStep(int kind) {
            int parcel = parcelIndex();
            int note = noteIndex();
            if (kind < 2) {
                int what = from(0, 3);
                int value = what == 0 ? weight() : side();
                due("dispute(" + parcel + ", " + what + ", " + value + ")",
                    desk.dispute(parcel, what, value), model.dispute(parcel, what, value));
            } else if (kind < 4) {
                boolean accept = below(3) != 0;
                due("settle(" + note + ", " + accept + ")", desk.settle(note, accept),
                    model.settle(note, accept));
            } else if (kind == 4) {
                int what = from(0, 5);
                due("note(" + note + ", " + what + ")", desk.note(note, what),
                    model.note(note, what));
            } else {
                int what = from(0, 4);
                due("sum(" + what + ")", desk.sum(what), model.sum(what));
                due("notes()", desk.notes(), model.w.notes.size());
            }
        }

        void cheaperStep(int kind) {
            int parcel = parcelIndex();
            if (kind < 2) {
                // The model tries weight by weight: of very heavy parcels only some are asked.
                if (model.parcel(parcel, 0) < 5000 || below(20) == 0) {
                    due("lighter(" + parcel + ")", desk.lighter(parcel), model.lessOf(parcel, 0));
                }
            } else if (kind == 2) {
                int side = from(1, 3);
                due("shorter(" + parcel + ", " + side + ")", desk.shorter(parcel, side),
                    model.shorter(parcel, side));
            } else {
                due("cheapest(" + parcel + ")", desk.cheapest(parcel), model.cheapest(parcel));
            }
        }
    }
}
