import java.math.BigInteger;
import java.util.ArrayDeque;
import java.util.ArrayList;
import java.util.BitSet;
import java.util.Deque;
import java.util.List;
import java.util.TreeSet;

/** The document read as plainly as can be, step by step and with the Java library, to compare RosettePlate with. */
final class NaivePlate {
    private static final int NONE = -9;

    private record Layer(int wheel, int side, int hole, int start) {
    }

    private record Sighting(int angle, int radius) {
    }

    private record State(int ring, List<Layer> layers, List<Sighting> sightings) {
        State copy() {
            return new State(ring, new ArrayList<>(layers), new ArrayList<>(sightings));
        }
    }

    private final StringBuilder text = new StringBuilder();
    private State now = new State(24, new ArrayList<>(), new ArrayList<>());
    private final Deque<State> remembered = new ArrayDeque<>();
    private final State[] slots = new State[2];

    // ---- text

    public int append(int c) {
        need(c >= 0 && c <= 255);
        ready(text.length() < 100);
        text.append((char) c);
        return text.length();
    }

    public int clearText() {
        int length = text.length();
        text.setLength(0);
        return length;
    }

    public int errorPosition() {
        return read(new State[1]);
    }

    public int load() {
        State[] found = new State[1];
        ready(read(found) == NONE);
        now = found[0];
        remembered.clear();
        slots[0] = null;
        slots[1] = null;
        return now.layers.size();
    }

    private int place;

    private int read(State[] found) {
        place = 0;
        if (!text.toString().startsWith("E")) {
            return 0;
        }
        place = 1;
        String ring = word(2, 12, 96);
        if (ring == null) {
            return place;
        }
        State state = new State(Integer.parseInt(ring), new ArrayList<>(), new ArrayList<>());
        while (place < text.length()) {
            if (!readPart(state)) {
                return place;
            }
        }
        found[0] = state;
        return NONE;
    }

    private boolean readPart(State state) {
        char letter = text.charAt(place);
        boolean isLayer = (letter == 'i' || letter == 'o') && state.layers.size() < 6;
        boolean isSighting = letter == 's' && state.sightings.size() < 8;
        if (!isLayer && !isSighting) {
            return false;
        }
        place++;
        int[][] ranges = isLayer
            ? new int[][] {{2, 5, 60}, {2, 0, 20}, {2, 0, state.ring - 1}}
            : new int[][] {{2, 0, state.ring - 1}, {3, 0, 300}};
        int[] numbers = new int[ranges.length];
        for (int i = 0; i < ranges.length; i++) {
            String word = word(ranges[i][0], ranges[i][1], ranges[i][2]);
            if (word == null) {
                return false;
            }
            numbers[i] = Integer.parseInt(word);
        }
        if (isLayer) {
            state.layers.add(new Layer(numbers[0], letter == 'i' ? 0 : 1, numbers[1], numbers[2]));
        } else {
            state.sightings.add(new Sighting(numbers[0], numbers[1]));
        }
        return true;
    }

    /** Reads a number of so many digits; null, with the place at the fault, if none of the range is there. */
    private String word(int digits, int least, int most) {
        String read = "";
        for (int i = 0; i < digits; i++) {
            if (place >= text.length()) {
                return null;
            }
            String longer = read + text.charAt(place);
            boolean begins = false;
            for (int number = least; number <= most; number++) {
                begins |= String.format("%0" + digits + "d", number).startsWith(longer);
            }
            if (!begins) {
                return null;
            }
            read = longer;
            place++;
        }
        return read;
    }

    // ---- what there is

    public int about(int what) {
        need(what >= 0 && what <= 6);
        if (what == 0) {
            return now.ring;
        }
        if (what == 1) {
            return now.layers.size();
        }
        if (what == 2) {
            return now.sightings.size();
        }
        if (what == 3) {
            return allPoints(now).cardinality();
        }
        if (what == 6) {
            return fitting(now);
        }
        TreeSet<Integer> radii = radii(allPoints(now));
        return radii.isEmpty() ? NONE : what == 4 ? radii.first() : radii.last();
    }

    public int layer(int l, int what) {
        Layer a = find(l);
        need(what >= 0 && what <= 9);
        int period = period(now.ring, a);
        TreeSet<Integer> radii = radii(points(now.ring, a));
        int[] numbers = {a.wheel, a.side, a.hole, a.start, period, period / now.ring, period / a.wheel,
            points(now.ring, a).cardinality(), radii.first(), radii.last()};
        return numbers[what];
    }

    public int pen(int l, long t) {
        Layer a = find(l);
        need(t >= 0);
        return point(now.ring, a, t);
    }

    public int comes(int l, int angle, int radius) {
        Layer a = find(l);
        need(isPoint(angle, radius));
        for (int t = 0; t < period(now.ring, a); t++) {
            if (point(now.ring, a, t) == 1000 * angle + radius) {
                return t;
            }
        }
        return NONE;
    }

    public int at(int radius) {
        need(radius >= 0 && radius <= 300);
        int number = 0;
        BitSet points = allPoints(now);
        for (int angle = 0; angle < now.ring; angle++) {
            number += points.get(1000 * angle + radius) ? 1 : 0;
        }
        return number;
    }

    public int blank() {
        TreeSet<Integer> radii = radii(allPoints(now));
        if (radii.isEmpty()) {
            return NONE;
        }
        int widest = 0;
        for (int radius : radii) {
            Integer next = radii.higher(radius);
            widest = next == null ? widest : Math.max(widest, next - radius);
        }
        return widest;
    }

    public long together() {
        BigInteger all = BigInteger.ONE;
        for (Layer a : now.layers) {
            BigInteger period = BigInteger.valueOf(period(now.ring, a));
            all = all.multiply(period).divide(all.gcd(period));
        }
        return now.layers.isEmpty() ? 0 : all.longValueExact();
    }

    public int order(int place) {
        need(place >= 0);
        List<Integer> order = new ArrayList<>();
        for (int l = 0; l < now.layers.size(); l++) {
            order.add(l);
        }
        order.sort((k, l) -> {
            int turns = Integer.compare(turns(now, k), turns(now, l));
            int lobes = Integer.compare(lobes(now, l), lobes(now, k));
            return turns != 0 ? turns : lobes != 0 ? lobes : Integer.compare(k, l);
        });
        return place < order.size() ? order.get(place) : NONE;
    }

    public int sighting(int i, int what) {
        index(i >= 0 && i < now.sightings.size());
        need(what >= 0 && what <= 2);
        Sighting seen = now.sightings.get(i);
        int number = 0;
        for (Layer a : now.layers) {
            number += points(now.ring, a).get(1000 * seen.angle + seen.radius) ? 1 : 0;
        }
        return what == 0 ? seen.angle : what == 1 ? seen.radius : number;
    }

    // ---- two rosettes

    public int common(int l, int m) {
        find(l);
        find(m);
        return common(now, l, m);
    }

    public int meet(int l, int m) {
        Layer a = find(l);
        Layer b = find(m);
        long steps = (long) period(now.ring, a) * b.wheel;
        for (long t = 0; t < steps; t++) {
            if (point(now.ring, a, t) == point(now.ring, b, t)) {
                return (int) t;
            }
        }
        return NONE;
    }

    public int turned(int l, int m) {
        find(l);
        find(m);
        return turned(now, l, m);
    }

    // ---- actions

    public int setRing(int teeth) {
        need(teeth >= 12 && teeth <= 96);
        remember();
        int previous = now.ring;
        now = withRing(now, teeth);
        return previous;
    }

    public int addLayer(int wheel, int side, int hole, int start) {
        Layer a = new Layer(wheel, side, hole, start);
        need(isLayer(now.ring, a));
        ready(now.layers.size() < 6);
        remember();
        now.layers.add(a);
        return now.layers.size() - 1;
    }

    public int change(int l, int what, int v) {
        Layer a = find(l);
        need(what >= 0 && what <= 3 && isLayer(now.ring, changed(a, what, v)));
        remember();
        now.layers.set(l, changed(a, what, v));
        return new int[] {a.wheel, a.side, a.hole, a.start}[what];
    }

    public int remove(int l) {
        find(l);
        remember();
        now.layers.remove(l);
        return now.layers.size();
    }

    public int see(int angle, int radius) {
        need(isPoint(angle, radius));
        remember();
        now.sightings.add(new Sighting(angle, radius));
        if (now.sightings.size() > 8) {
            now.sightings.remove(0);
        }
        return fitting(now);
    }

    public int forget() {
        remember();
        int number = now.sightings.size();
        now.sightings.clear();
        return number;
    }

    public int undo() {
        ready(!remembered.isEmpty());
        now = remembered.removeLast();
        return remembered.size();
    }

    private void remember() {
        remembered.addLast(now.copy());
        if (remembered.size() > 14) {
            remembered.removeFirst();
        }
    }

    // ---- what would be

    public int bestStart(int l, int m) {
        Layer a = find(l);
        find(m);
        need(l != m);
        int best = NONE;
        int most = -1;
        for (int start = 0; start < now.ring; start++) {
            State other = now.copy();
            other.layers.set(l, changed(a, 3, start));
            if (common(other, l, m) > most) {
                most = common(other, l, m);
                best = start;
            }
        }
        return best;
    }

    public int wheels(int side, int hole, int start, int what) {
        need(isLayer(now.ring, new Layer(5, side, hole, start)) && what >= 0 && what <= 2);
        TreeSet<Integer> fit = new TreeSet<>();
        for (int wheel = 5; wheel <= 60; wheel++) {
            if (fits(now, new Layer(wheel, side, hole, start))) {
                fit.add(wheel);
            }
        }
        return what == 0 ? fit.size() : fit.isEmpty() ? NONE : what == 1 ? fit.first() : fit.last();
    }

    public int wheelFor(int turns) {
        need(turns >= 1 && turns <= 60);
        int found = NONE;
        for (int wheel = 5; wheel <= 60; wheel++) {
            found = period(now.ring, new Layer(wheel, 0, 0, 0)) / now.ring == turns ? wheel : found;
        }
        return found;
    }

    // ---- scripts, simulations

    public int runScript(int n, long script) {
        need(n >= 1 && n <= 3 && script >= 0 && Long.toString(script).length() <= 5 * n);
        String digits = String.format("%0" + 5 * n + "d", script);
        NaivePlate copy = new NaivePlate();
        copy.now = now.copy();
        for (int i = 0; i < n; i++) {
            if (!copy.succeeds(digits.substring(5 * i, 5 * i + 5))) {
                return i;
            }
        }
        return NONE;
    }

    private boolean succeeds(String group) {
        int a = group.charAt(1) - '0';
        int b = group.charAt(2) - '0';
        int c = group.charAt(3) - '0';
        int d = group.charAt(4) - '0';
        int xy = Integer.parseInt(group.substring(3));
        try {
            switch (group.charAt(0)) {
                case '1':
                    change(a, b, xy);
                    return true;
                case '2':
                    remove(group.endsWith("000") ? a : NONE);
                    return true;
                case '3':
                    setRing(group.startsWith("300") ? xy : NONE);
                    return true;
                case '4':
                    addLayer(10 * b + c, a, d, 0);
                    return true;
                case '5':
                    return common(a, b) >= xy;
                case '6':
                    return b == 0 && layer(a, 5) == xy;
                case '7':
                    return turned(a, b) == xy;
                case '8':
                    return group.endsWith("000") && about(6) >= a;
                case '9':
                    return b == 0 && layer(a, 6) == xy;
                default:
                    return false;
            }
        } catch (IndexOutOfBoundsException | IllegalArgumentException | IllegalStateException e) {
            return false;
        }
    }

    public int simulate(long seed, int m) {
        need(m >= 1 && m <= 200);
        BitSet cut = new BitSet();
        BigInteger x = BigInteger.valueOf(seed);
        BigInteger whole = BigInteger.ONE.shiftLeft(64);
        for (int i = 0; i < m; i++) {
            x = x.multiply(BigInteger.valueOf(6364136223846793005L)).add(BigInteger.valueOf(1442695040888963407L));
            x = x.mod(whole);
            int r = x.shiftRight(33).intValueExact();
            Layer a = new Layer(5 + r % 56, r / 64 % 2, r / 128 % 21, 0);
            cut.set(point(now.ring, a, r / 4096 % 1000));
        }
        return 1000 * cut.cardinality() + radii(cut).last();
    }

    // ---- save slots

    public int save(int slot) {
        index(slot == 0 || slot == 1);
        slots[slot] = now.copy();
        return now.layers.size();
    }

    public int restore(int slot) {
        index(slot == 0 || slot == 1);
        ready(slots[slot] != null);
        now = slots[slot].copy();
        remembered.clear();
        return now.layers.size();
    }

    // ---- what the methods share

    private static void index(boolean there) {
        if (!there) {
            throw new IndexOutOfBoundsException();
        }
    }

    private static void need(boolean allowed) {
        if (!allowed) {
            throw new IllegalArgumentException();
        }
    }

    private static void ready(boolean possible) {
        if (!possible) {
            throw new IllegalStateException();
        }
    }

    private Layer find(int l) {
        index(l >= 0 && l < now.layers.size());
        return now.layers.get(l);
    }

    private boolean isPoint(int angle, int radius) {
        return angle >= 0 && angle < now.ring && radius >= 0 && radius <= 300;
    }

    private static boolean isLayer(int ring, Layer a) {
        return a.wheel >= 5 && a.wheel <= 60 && a.side >= 0 && a.side <= 1 && a.hole >= 0 && a.hole <= 20
            && a.start >= 0 && a.start < ring;
    }

    private static Layer changed(Layer a, int what, int v) {
        return new Layer(what == 0 ? v : a.wheel, what == 1 ? v : a.side, what == 2 ? v : a.hole,
            what == 3 ? v : a.start);
    }

    private static State withRing(State state, int teeth) {
        State other = new State(teeth, new ArrayList<>(), new ArrayList<>());
        for (Layer a : state.layers) {
            other.layers.add(a.start < teeth ? a : changed(a, 3, 0));
        }
        for (Sighting seen : state.sightings) {
            other.sightings.add(seen.angle < teeth ? seen : new Sighting(0, seen.radius));
        }
        return other;
    }

    private static int period(int ring, Layer a) {
        int t = 1;
        while (t % ring != 0 || t % a.wheel != 0) {
            t++;
        }
        return t;
    }

    private static int turns(State state, int l) {
        return period(state.ring, state.layers.get(l)) / state.ring;
    }

    private static int lobes(State state, int l) {
        return period(state.ring, state.layers.get(l)) / state.layers.get(l).wheel;
    }

    /** 1000 * angle + radius. */
    private static int point(int ring, Layer a, long t) {
        int w = a.wheel;
        int angle = BigInteger.valueOf(t).add(BigInteger.valueOf(a.start)).mod(BigInteger.valueOf(ring)).intValue();
        int u = (int) (t % w);
        int above = a.hole * (2 * Math.abs(2 * u - w) - w);
        int size = Math.abs(above) / w;
        return 1000 * angle + (a.side == 0 ? 200 - w : 200 + w) + (above < 0 ? -size : size);
    }

    private static BitSet points(int ring, Layer a) {
        BitSet points = new BitSet();
        int period = period(ring, a);
        for (int t = 0; t < period; t++) {
            points.set(point(ring, a, t));
        }
        return points;
    }

    private static BitSet allPoints(State state) {
        BitSet points = new BitSet();
        for (Layer a : state.layers) {
            points.or(points(state.ring, a));
        }
        return points;
    }

    private static TreeSet<Integer> radii(BitSet points) {
        TreeSet<Integer> radii = new TreeSet<>();
        points.stream().forEach(point -> radii.add(point % 1000));
        return radii;
    }

    private static boolean fits(State state, Layer a) {
        BitSet points = points(state.ring, a);
        for (Sighting seen : state.sightings) {
            if (!points.get(1000 * seen.angle + seen.radius)) {
                return false;
            }
        }
        return true;
    }

    private static int fitting(State state) {
        int number = 0;
        for (Layer a : state.layers) {
            number += fits(state, a) ? 1 : 0;
        }
        return number;
    }

    private static int common(State state, int l, int m) {
        BitSet both = points(state.ring, state.layers.get(l));
        both.and(points(state.ring, state.layers.get(m)));
        return both.cardinality();
    }

    private static int turned(State state, int l, int m) {
        Layer a = state.layers.get(l);
        BitSet want = points(state.ring, state.layers.get(m));
        for (int teeth = 0; teeth < state.ring; teeth++) {
            if (points(state.ring, changed(a, 3, (a.start + teeth) % state.ring)).equals(want)) {
                return teeth;
            }
        }
        return NONE;
    }
}
