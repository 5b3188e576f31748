/** An engraver's plate of rosettes: a ring with teeth, wheels that roll in and around it, and what their pens cut. */
public final class RosettePlate {
    /** There is no such result. */
    public static final int NONE = -9;

    private static final int FIRST_RING = 24;
    private static final int LEAST_RING = 12;
    private static final int MOST_RING = 96;
    private static final int LEAST_WHEEL = 5;
    private static final int MOST_WHEEL = 60;
    private static final int MOST_HOLE = 20;
    private static final int RING_RADIUS = 200;
    private static final int MOST_RADIUS = 300;
    private static final int MOST_LAYERS = 6;
    private static final int MOST_SIGHTINGS = 8;
    private static final int MOST_TEXT = 100;
    private static final int MOST_CHARACTER = 255;
    private static final int MOST_REMEMBERED = 14;
    private static final int SLOTS = 2;
    private static final int MOST_TURNS = 60;
    private static final int MOST_COMMANDS = 3;
    private static final int MOST_STROKES = 200;

    private final char[] text;
    private int textLength;
    private final Plate plate;
    private final Plate spare;
    private final History history;
    private final Plate[] slots;
    private final boolean[] filled;
    private final Bench bench;

    public RosettePlate() {
        text = new char[MOST_TEXT];
        plate = new Plate();
        spare = new Plate();
        history = new History();
        slots = new Plate[SLOTS];
        filled = new boolean[SLOTS];
        for (int slot = 0; slot < slots.length; slot++) {
            slots[slot] = new Plate();
        }
        bench = new Bench();
    }

    // ---- text

    public int append(int c) throws IllegalArgumentException, IllegalStateException {
        if (c < 0 || c > MOST_CHARACTER) {
            throw new IllegalArgumentException("c is not 0 to 255");
        }
        if (textLength < 0 || textLength >= text.length) {
            throw new IllegalStateException("the text is full");
        }
        text[textLength] = (char) c;
        textLength++;
        return textLength;
    }

    public int clearText() {
        int previous = textLength;
        textLength = 0;
        return previous;
    }

    public int errorPosition() {
        return readText();
    }

    public int load() throws IllegalStateException {
        if (readText() != NONE) {
            throw new IllegalStateException("the text is not a plate");
        }
        plate.become(spare);
        history.forgetAll();
        for (int slot = 0; slot < filled.length; slot++) {
            filled[slot] = false;
        }
        return plate.layerCount;
    }

    /** Reads the text into the spare plate, so that a text with a fault in it changes nothing. */
    private int readText() {
        return new TextReader(text, textLength).readInto(spare);
    }

    // ---- what there is

    public int about(int what) throws IllegalArgumentException {
        switch (what) {
            case 0: return plate.ring;
            case 1: return plate.layerCount;
            case 2: return plate.sightingCount;
            case 3: return bench.cutAll(plate).size();
            case 4: return plate.leastRadius();
            case 5: return plate.greatestRadius();
            case 6: return plate.fitting();
            default: throw new IllegalArgumentException("what is not 0 to 6");
        }
    }

    public int layer(int l, int what) throws IndexOutOfBoundsException, IllegalArgumentException {
        Layer a = plate.find(l);
        if (a == null) {
            throw new IndexOutOfBoundsException("no such layer");
        }
        switch (what) {
            case 0: return a.wheel;
            case 1: return a.side;
            case 2: return a.hole;
            case 3: return a.start;
            case 4: return a.period(plate.ring);
            case 5: return a.turns(plate.ring);
            case 6: return a.lobes(plate.ring);
            case 7: return bench.cutOne(plate.ring, a).size();
            case 8: return a.leastRadius();
            case 9: return a.greatestRadius();
            default: throw new IllegalArgumentException("what is not 0 to 9");
        }
    }

    public int pen(int l, long t) throws IndexOutOfBoundsException, IllegalArgumentException {
        Layer a = plate.find(l);
        if (a == null) {
            throw new IndexOutOfBoundsException("no such layer");
        }
        if (t < 0) {
            throw new IllegalArgumentException("t is negative");
        }
        return 1000 * a.angleAt(plate.ring, t) + a.radiusAt(t);
    }

    public int comes(int l, int angle, int radius) throws IndexOutOfBoundsException, IllegalArgumentException {
        Layer a = plate.find(l);
        if (a == null) {
            throw new IndexOutOfBoundsException("no such layer");
        }
        if (!plate.hasTooth(angle) || !isRadius(radius)) {
            throw new IllegalArgumentException("angle or radius is out of range");
        }
        return a.firstStepAt(plate.ring, angle, radius);
    }

    public int at(int radius) throws IllegalArgumentException {
        if (!isRadius(radius)) {
            throw new IllegalArgumentException("radius is not 0 to 300");
        }
        return bench.cutAll(plate).sizeAt(radius);
    }

    public int blank() {
        return plate.layerCount == 0 ? NONE : bench.cutAll(plate).widestGap();
    }

    public long together() {
        if (plate.layerCount == 0) {
            return 0;
        }
        long steps = 1;
        for (int l = 0; l < plate.layerCount; l++) {
            Layer a = plate.find(l);
            if (a != null) {
                steps = commonMultiple(steps, a.period(plate.ring));
            }
        }
        return steps;
    }

    public int order(int place) throws IllegalArgumentException {
        if (place < 0) {
            throw new IllegalArgumentException("place is negative");
        }
        for (int l = 0; l < plate.layerCount; l++) {
            if (plate.cutBefore(l) == place) {
                return l;
            }
        }
        return NONE;
    }

    public int sighting(int i, int what) throws IndexOutOfBoundsException, IllegalArgumentException {
        if (i < 0 || i >= plate.sightingCount) {
            throw new IndexOutOfBoundsException("no such sighting");
        }
        switch (what) {
            case 0: return plate.sightedAngle(i);
            case 1: return plate.sightedRadius(i);
            case 2: return plate.layersThrough(plate.sightedAngle(i), plate.sightedRadius(i));
            default: throw new IllegalArgumentException("what is not 0 to 2");
        }
    }

    // ---- two rosettes

    public int common(int l, int m) throws IndexOutOfBoundsException {
        Layer a = plate.find(l);
        Layer b = plate.find(m);
        if (a == null || b == null) {
            throw new IndexOutOfBoundsException("no such layer");
        }
        return bench.countCommon(plate.ring, a, b);
    }

    public int meet(int l, int m) throws IndexOutOfBoundsException {
        Layer a = plate.find(l);
        Layer b = plate.find(m);
        if (a == null || b == null) {
            throw new IndexOutOfBoundsException("no such layer");
        }
        return a.firstMeeting(b);
    }

    public int turned(int l, int m) throws IndexOutOfBoundsException {
        Layer a = plate.find(l);
        Layer b = plate.find(m);
        if (a == null || b == null) {
            throw new IndexOutOfBoundsException("no such layer");
        }
        return bench.turnBetween(plate.ring, a, b);
    }

    // ---- actions

    public int setRing(int teeth) throws IllegalArgumentException {
        if (!isRing(teeth)) {
            throw new IllegalArgumentException("teeth is not 12 to 96");
        }
        history.remember(plate);
        int previous = plate.ring;
        plate.takeRing(teeth);
        return previous;
    }

    public int addLayer(int wheel, int side, int hole, int start)
            throws IllegalArgumentException, IllegalStateException {
        if (!isWheel(wheel) || !isSide(side) || !isHole(hole) || !plate.hasTooth(start)) {
            throw new IllegalArgumentException("an argument is out of range");
        }
        if (plate.isFull()) {
            throw new IllegalStateException("there are 6 layers");
        }
        history.remember(plate);
        plate.putLayer(wheel, side, hole, start);
        return plate.layerCount - 1;
    }

    public int change(int l, int what, int v) throws IndexOutOfBoundsException, IllegalArgumentException {
        Layer a = plate.find(l);
        if (a == null) {
            throw new IndexOutOfBoundsException("no such layer");
        }
        if (!plate.allows(what, v)) {
            throw new IllegalArgumentException("what or v is out of range");
        }
        history.remember(plate);
        return a.exchange(what, v);
    }

    public int remove(int l) throws IndexOutOfBoundsException {
        if (plate.find(l) == null) {
            throw new IndexOutOfBoundsException("no such layer");
        }
        history.remember(plate);
        plate.dropLayer(l);
        return plate.layerCount;
    }

    public int see(int angle, int radius) throws IllegalArgumentException {
        if (!plate.hasTooth(angle) || !isRadius(radius)) {
            throw new IllegalArgumentException("angle or radius is out of range");
        }
        history.remember(plate);
        plate.note(angle, radius);
        return plate.fitting();
    }

    public int forget() {
        history.remember(plate);
        int previous = plate.sightingCount;
        plate.sightingCount = 0;
        return previous;
    }

    public int undo() throws IllegalStateException {
        if (history.count == 0) {
            throw new IllegalStateException("no state is remembered");
        }
        history.takeBack(plate);
        return history.count;
    }

    // ---- what would be

    public int bestStart(int l, int m) throws IndexOutOfBoundsException, IllegalArgumentException {
        Layer a = plate.find(l);
        Layer b = plate.find(m);
        if (a == null || b == null) {
            throw new IndexOutOfBoundsException("no such layer");
        }
        if (l == m) {
            throw new IllegalArgumentException("l and m are the same");
        }
        return bench.startWithMost(plate.ring, a, b);
    }

    public int wheels(int side, int hole, int start, int what) throws IllegalArgumentException {
        if (!isSide(side) || !isHole(hole) || !plate.hasTooth(start) || what < 0 || what > 2) {
            throw new IllegalArgumentException("an argument is out of range");
        }
        int number = 0;
        int least = NONE;
        int greatest = NONE;
        for (int wheel = LEAST_WHEEL; wheel <= MOST_WHEEL; wheel++) {
            bench.trial.set(wheel, side, hole, start);
            if (plate.fits(bench.trial)) {
                number++;
                least = least == NONE ? wheel : least;
                greatest = wheel;
            }
        }
        return what == 0 ? number : what == 1 ? least : greatest;
    }

    public int wheelFor(int turns) throws IllegalArgumentException {
        if (turns < 1 || turns > MOST_TURNS) {
            throw new IllegalArgumentException("turns is not 1 to 60");
        }
        for (int wheel = MOST_WHEEL; wheel >= LEAST_WHEEL; wheel--) {
            bench.trial.set(wheel, 0, 0, 0);
            if (bench.trial.turns(plate.ring) == turns) {
                return wheel;
            }
        }
        return NONE;
    }

    // ---- scripts, simulations

    public int runScript(int n, long script) throws IllegalArgumentException {
        if (n < 1 || n > MOST_COMMANDS) {
            throw new IllegalArgumentException("n is not 1 to 3");
        }
        if (script < 0 || script >= groupUnit(n)) {
            throw new IllegalArgumentException("script is negative or too long");
        }
        spare.become(plate);
        for (int i = 0; i < n; i++) {
            long behind = quotient(script, groupUnit(n - 1 - i));
            if (!new Command((int) (behind % Command.GROUP)).succeeds(spare, bench)) {
                return i;
            }
        }
        return NONE;
    }

    /** The weight in a script's number of the group behind which so many groups come. */
    private static long groupUnit(int groups) {
        long unit = 1;
        for (int i = 0; i < groups; i++) {
            unit *= Command.GROUP;
        }
        return unit;
    }

    public int simulate(long seed, int m) throws IllegalArgumentException {
        if (m < 1 || m > MOST_STROKES) {
            throw new IllegalArgumentException("m is not 1 to 200");
        }
        Layer stroke = bench.trial;
        bench.first.clear();
        int greatest = 0;
        long x = seed;
        for (int i = 0; i < m; i++) {
            x = x * 6364136223846793005L + 1442695040888963407L;
            int r = (int) (x >>> 33);
            stroke.set(LEAST_WHEEL + r % 56, r / 64 % 2, r / 128 % 21, 0);
            int step = r / 4096 % 1000;
            int radius = stroke.radiusAt(step);
            bench.first.cut(stroke.angleAt(plate.ring, step), radius);
            greatest = Math.max(greatest, radius);
        }
        return 1000 * bench.first.size() + greatest;
    }

    // ---- save slots

    public int save(int slot) throws IndexOutOfBoundsException {
        Plate kept = slotPlate(slot);
        if (kept == null || slot < 0 || slot >= filled.length) {
            throw new IndexOutOfBoundsException("no such save slot");
        }
        kept.become(plate);
        filled[slot] = true;
        return plate.layerCount;
    }

    public int restore(int slot) throws IndexOutOfBoundsException, IllegalStateException {
        Plate kept = slotPlate(slot);
        if (kept == null || slot < 0 || slot >= filled.length) {
            throw new IndexOutOfBoundsException("no such save slot");
        }
        if (!filled[slot]) {
            throw new IllegalStateException("nothing is saved in this slot");
        }
        plate.become(kept);
        history.forgetAll();
        return plate.layerCount;
    }

    private Plate slotPlate(int slot) {
        return slot >= 0 && slot < slots.length ? slots[slot] : null;
    }

    // ---- ranges

    private static boolean isRing(int teeth) {
        return teeth >= LEAST_RING && teeth <= MOST_RING;
    }

    private static boolean isWheel(int teeth) {
        return teeth >= LEAST_WHEEL && teeth <= MOST_WHEEL;
    }

    private static boolean isSide(int side) {
        return side == 0 || side == 1;
    }

    private static boolean isHole(int hole) {
        return hole >= 0 && hole <= MOST_HOLE;
    }

    private static boolean isRadius(int radius) {
        return radius >= 0 && radius <= MOST_RADIUS;
    }

    // ---- numbers; a divisor is looked at here, so that the machine never divides by 0

    private static long quotient(long a, long by) {
        return by > 0 ? a / by : 0;
    }

    private static int remainder(long a, int by) {
        return by > 0 ? (int) (a % by) : 0;
    }

    private static long commonDivisor(long a, long b) {
        long x = a;
        long y = b;
        // Euclid's way needs fewer than 100 rounds for any two longs.
        for (int round = 0; round < 100 && y > 0; round++) {
            long rest = x % y;
            x = y;
            y = rest;
        }
        return x;
    }

    private static long commonMultiple(long a, long b) {
        return quotient(a, commonDivisor(a, b)) * b;
    }

    /** A wheel with its pen; what depends on the ring is told the ring's teeth. */
    private static final class Layer {
        int wheel;
        int side;
        int hole;
        int start;

        Layer() {
            wheel = LEAST_WHEEL;
        }

        void set(int newWheel, int newSide, int newHole, int newStart) {
            wheel = newWheel;
            side = newSide;
            hole = newHole;
            start = newStart;
        }

        void become(Layer other) {
            set(other.wheel, other.side, other.hole, other.start);
        }

        /** Puts v in the place of the number what (as in change) and answers the previous one. */
        int exchange(int what, int v) {
            int previous = start;
            switch (what) {
                case 0:
                    previous = wheel;
                    wheel = v;
                    break;
                case 1:
                    previous = side;
                    side = v;
                    break;
                case 2:
                    previous = hole;
                    hole = v;
                    break;
                default:
                    start = v;
                    break;
            }
            return previous;
        }

        int angleAt(int ring, long step) {
            return remainder(start + remainder(step, ring), ring);
        }

        int radiusAt(long step) {
            int u = remainder(step, wheel);
            int middle = side == 0 ? RING_RADIUS - wheel : RING_RADIUS + wheel;
            return middle + (int) quotient(hole * (2 * Math.abs(2 * u - wheel) - wheel), wheel);
        }

        int leastRadius() {
            int least = radiusAt(0);
            for (int u = 1; u < wheel; u++) {
                least = Math.min(least, radiusAt(u));
            }
            return least;
        }

        int greatestRadius() {
            int greatest = radiusAt(0);
            for (int u = 1; u < wheel; u++) {
                greatest = Math.max(greatest, radiusAt(u));
            }
            return greatest;
        }

        /** The smallest common multiple of the teeth of both. */
        int period(int ring) {
            return ring * turns(ring);
        }

        int turns(int ring) {
            return (int) quotient(wheel, commonDivisor(ring, wheel));
        }

        int lobes(int ring) {
            return (int) quotient(ring, commonDivisor(ring, wheel));
        }

        /** The pen is at an angle at every ring-th step only, so no other steps are tried. */
        int firstStepAt(int ring, int angle, int radius) {
            int first = remainder((long) angle - start + ring, ring);
            int turns = turns(ring);
            for (int turn = 0; turn < turns; turn++) {
                int step = first + turn * ring;
                if (radiusAt(step) == radius) {
                    return step;
                }
            }
            return NONE;
        }

        /** Both pens go on by one tooth a step, so their angles are the same always or never. */
        int firstMeeting(Layer other) {
            if (start != other.start) {
                return NONE;
            }
            int steps = (int) commonMultiple(wheel, other.wheel);
            for (int step = 0; step < steps; step++) {
                if (radiusAt(step) == other.radiusAt(step)) {
                    return step;
                }
            }
            return NONE;
        }
    }

    /** The state: the ring, the layers and the sightings. Layers and rows beyond the counts are spare. */
    private static final class Plate {
        int ring;
        int layerCount;
        int sightingCount;
        final Layer[] layers;
        final int[] angles;
        final int[] radii;

        Plate() {
            ring = FIRST_RING;
            layers = new Layer[MOST_LAYERS];
            for (int l = 0; l < layers.length; l++) {
                layers[l] = new Layer();
            }
            angles = new int[MOST_SIGHTINGS];
            radii = new int[MOST_SIGHTINGS];
        }

        void become(Plate other) {
            empty(other.ring);
            for (int l = 0; l < other.layerCount; l++) {
                Layer from = other.find(l);
                if (from != null) {
                    putLayer(from.wheel, from.side, from.hole, from.start);
                }
            }
            for (int i = 0; i < other.sightingCount; i++) {
                note(other.sightedAngle(i), other.sightedRadius(i));
            }
        }

        void empty(int teeth) {
            ring = teeth;
            layerCount = 0;
            sightingCount = 0;
        }

        /** The layer with this number, null if there is none. */
        Layer find(int l) {
            return l >= 0 && l < layerCount && l < layers.length ? layers[l] : null;
        }

        boolean hasTooth(int tooth) {
            return tooth >= 0 && tooth < ring;
        }

        boolean isFull() {
            return layerCount >= MOST_LAYERS;
        }

        /** Whether v is in the range of the number what of a layer (as in change). */
        boolean allows(int what, int v) {
            switch (what) {
                case 0: return isWheel(v);
                case 1: return isSide(v);
                case 2: return isHole(v);
                case 3: return hasTooth(v);
                default: return false;
            }
        }

        void takeRing(int teeth) {
            ring = teeth;
            for (int l = 0; l < layerCount; l++) {
                Layer a = find(l);
                if (a != null && !hasTooth(a.start)) {
                    a.start = 0;
                }
            }
            for (int i = 0; i < angles.length; i++) {
                if (!hasTooth(angles[i])) {
                    angles[i] = 0;
                }
            }
        }

        void putLayer(int wheel, int side, int hole, int start) {
            if (isFull()) {
                return;
            }
            layerCount++;
            Layer a = find(layerCount - 1);
            if (a != null) {
                a.set(wheel, side, hole, start);
            }
        }

        void dropLayer(int l) {
            for (int k = l; k < layerCount - 1; k++) {
                Layer to = find(k);
                Layer from = find(k + 1);
                if (to != null && from != null) {
                    to.become(from);
                }
            }
            layerCount--;
        }

        int sightedAngle(int i) {
            return i >= 0 && i < angles.length ? angles[i] : NONE;
        }

        int sightedRadius(int i) {
            return i >= 0 && i < radii.length ? radii[i] : NONE;
        }

        void note(int angle, int radius) {
            if (sightingCount >= MOST_SIGHTINGS) {
                dropOldest();
            }
            if (sightingCount >= 0 && sightingCount < angles.length && sightingCount < radii.length) {
                angles[sightingCount] = angle;
                radii[sightingCount] = radius;
                sightingCount++;
            }
        }

        private void dropOldest() {
            for (int i = 1; i < angles.length && i < radii.length; i++) {
                angles[i - 1] = angles[i];
                radii[i - 1] = radii[i];
            }
            sightingCount--;
        }

        boolean fits(Layer a) {
            for (int i = 0; i < sightingCount; i++) {
                if (a.firstStepAt(ring, sightedAngle(i), sightedRadius(i)) == NONE) {
                    return false;
                }
            }
            return true;
        }

        int fitting() {
            int number = 0;
            for (int l = 0; l < layerCount; l++) {
                Layer a = find(l);
                if (a != null && fits(a)) {
                    number++;
                }
            }
            return number;
        }

        int layersThrough(int angle, int radius) {
            int number = 0;
            for (int l = 0; l < layerCount; l++) {
                Layer a = find(l);
                if (a != null && a.firstStepAt(ring, angle, radius) != NONE) {
                    number++;
                }
            }
            return number;
        }

        int leastRadius() {
            int least = NONE;
            for (int l = 0; l < layerCount; l++) {
                Layer a = find(l);
                if (a != null && (least == NONE || a.leastRadius() < least)) {
                    least = a.leastRadius();
                }
            }
            return least;
        }

        int greatestRadius() {
            int greatest = NONE;
            for (int l = 0; l < layerCount; l++) {
                Layer a = find(l);
                if (a != null && a.greatestRadius() > greatest) {
                    greatest = a.greatestRadius();
                }
            }
            return greatest;
        }

        /** How many layers are cut before the layer l. */
        int cutBefore(int l) {
            int number = 0;
            for (int k = 0; k < layerCount; k++) {
                if (k != l && isCutBefore(k, l)) {
                    number++;
                }
            }
            return number;
        }

        private boolean isCutBefore(int k, int l) {
            Layer a = find(k);
            Layer b = find(l);
            if (a == null || b == null) {
                return false;
            }
            if (a.turns(ring) != b.turns(ring)) {
                return a.turns(ring) < b.turns(ring);
            }
            if (a.lobes(ring) != b.lobes(ring)) {
                return a.lobes(ring) > b.lobes(ring);
            }
            return k < l;
        }
    }

    /** A set of points: two longs for each radius, a bit for each angle. */
    private static final class PointSet {
        private static final int WORDS = 2;
        private static final int BITS = 64;
        final long[] words;

        PointSet() {
            words = new long[WORDS * (MOST_RADIUS + 1)];
        }

        void clear() {
            for (int i = 0; i < words.length; i++) {
                words[i] = 0;
            }
        }

        void cut(int angle, int radius) {
            int i = WORDS * radius + angle / BITS;
            if (angle >= 0 && angle < MOST_RING && i >= 0 && i < words.length) {
                words[i] |= 1L << (angle % BITS);
            }
        }

        void cutRosette(int ring, Layer a) {
            int lobes = a.lobes(ring);
            for (int u = 0; u < a.wheel; u++) {
                // The radius is the same at all steps with this u.
                int radius = a.radiusAt(u);
                for (int lobe = 0; lobe < lobes; lobe++) {
                    cut(a.angleAt(ring, u + lobe * a.wheel), radius);
                }
            }
        }

        int size() {
            int number = 0;
            for (int i = 0; i < words.length; i++) {
                number += Long.bitCount(words[i]);
            }
            return number;
        }

        int sizeAt(int radius) {
            int i = WORDS * radius;
            if (i < 0 || i + 1 >= words.length) {
                return 0;
            }
            return Long.bitCount(words[i]) + Long.bitCount(words[i + 1]);
        }

        int widestGap() {
            int widest = 0;
            int previous = NONE;
            for (int radius = 0; radius <= MOST_RADIUS; radius++) {
                if (sizeAt(radius) > 0) {
                    if (previous != NONE) {
                        widest = Math.max(widest, radius - previous);
                    }
                    previous = radius;
                }
            }
            return widest;
        }

        int sizeOfBoth(PointSet other) {
            int number = 0;
            for (int i = 0; i < words.length && i < other.words.length; i++) {
                number += Long.bitCount(words[i] & other.words[i]);
            }
            return number;
        }

        boolean isSameAs(PointSet other) {
            for (int i = 0; i < words.length && i < other.words.length; i++) {
                if (words[i] != other.words[i]) {
                    return false;
                }
            }
            return true;
        }
    }

    /** Rows that are made once and used again by every call that compares or counts points. */
    private static final class Bench {
        final PointSet first;
        final PointSet second;
        final Layer trial;

        Bench() {
            first = new PointSet();
            second = new PointSet();
            trial = new Layer();
        }

        PointSet cutOne(int ring, Layer a) {
            first.clear();
            first.cutRosette(ring, a);
            return first;
        }

        PointSet cutAll(Plate plate) {
            first.clear();
            for (int l = 0; l < plate.layerCount; l++) {
                Layer a = plate.find(l);
                if (a != null) {
                    first.cutRosette(plate.ring, a);
                }
            }
            return first;
        }

        int countCommon(int ring, Layer a, Layer b) {
            first.clear();
            first.cutRosette(ring, a);
            second.clear();
            second.cutRosette(ring, b);
            return first.sizeOfBoth(second);
        }

        /**
         * How many starts give a layer different rosettes. Some number of whole turns of the wheel leads on by just
         * the common divisor in the ring, so a start that is later by it gives the same points in another order.
         */
        private static int differentStarts(int ring, Layer a) {
            return (int) commonDivisor(ring, a.wheel);
        }

        int turnBetween(int ring, Layer a, Layer b) {
            second.clear();
            second.cutRosette(ring, b);
            trial.become(a);
            int turns = differentStarts(ring, a);
            for (int turn = 0; turn < turns; turn++) {
                trial.start = a.angleAt(ring, turn);
                first.clear();
                first.cutRosette(ring, trial);
                if (first.isSameAs(second)) {
                    return turn;
                }
            }
            return NONE;
        }

        int startWithMost(int ring, Layer a, Layer b) {
            second.clear();
            second.cutRosette(ring, b);
            trial.become(a);
            int starts = differentStarts(ring, a);
            int best = 0;
            int most = NONE;
            for (int start = 0; start < starts; start++) {
                trial.start = start;
                first.clear();
                first.cutRosette(ring, trial);
                int number = first.sizeOfBoth(second);
                if (number > most) {
                    most = number;
                    best = start;
                }
            }
            return best;
        }
    }

    /** The last states, in a row that begins again behind its end. */
    private static final class History {
        final Plate[] states;
        int oldest;
        int count;

        History() {
            states = new Plate[MOST_REMEMBERED];
            for (int i = 0; i < states.length; i++) {
                states[i] = new Plate();
            }
        }

        private Plate stateAt(int place) {
            int i = place % MOST_REMEMBERED;
            return i >= 0 && i < states.length ? states[i] : null;
        }

        void remember(Plate plate) {
            Plate free = stateAt(oldest + count);
            if (free != null) {
                free.become(plate);
            }
            if (count < MOST_REMEMBERED) {
                count++;
            } else {
                oldest = (oldest + 1) % MOST_REMEMBERED;
            }
        }

        void takeBack(Plate plate) {
            count--;
            Plate last = stateAt(oldest + count);
            if (last != null) {
                plate.become(last);
            }
        }

        void forgetAll() {
            oldest = 0;
            count = 0;
        }
    }

    /** Reads a plate from left to right and stops at the first character that is not allowed at its place. */
    private static final class TextReader {
        private static final int NOT_ALLOWED = -1;
        final char[] text;
        final int length;
        int place;

        TextReader(char[] text, int length) {
            this.text = text;
            this.length = length;
        }

        /** Answers the error position, NONE if the text is a plate. */
        int readInto(Plate plate) {
            if (!readRing(plate)) {
                return place;
            }
            for (int part = 0; part < MOST_TEXT && place < length; part++) {
                if (!readPart(plate)) {
                    return place;
                }
            }
            return NONE;
        }

        /** The character at the place, NONE behind the end. */
        private int next() {
            return place >= 0 && place < length && place < text.length ? text[place] : NONE;
        }

        private boolean readRing(Plate plate) {
            if (next() != 'E') {
                return false;
            }
            place++;
            int ring = readNumber(2, LEAST_RING, MOST_RING);
            if (ring == NOT_ALLOWED) {
                return false;
            }
            plate.empty(ring);
            return true;
        }

        private boolean readPart(Plate plate) {
            switch (next()) {
                case 'i': return !plate.isFull() && readLayer(plate, 0);
                case 'o': return !plate.isFull() && readLayer(plate, 1);
                case 's': return plate.sightingCount < MOST_SIGHTINGS && readSighting(plate);
                default: return false;
            }
        }

        private boolean readLayer(Plate plate, int side) {
            place++;
            int wheel = readNumber(2, LEAST_WHEEL, MOST_WHEEL);
            if (wheel == NOT_ALLOWED) {
                return false;
            }
            int hole = readNumber(2, 0, MOST_HOLE);
            if (hole == NOT_ALLOWED) {
                return false;
            }
            int start = readNumber(2, 0, plate.ring - 1);
            if (start == NOT_ALLOWED) {
                return false;
            }
            plate.putLayer(wheel, side, hole, start);
            return true;
        }

        private boolean readSighting(Plate plate) {
            place++;
            int angle = readNumber(2, 0, plate.ring - 1);
            if (angle == NOT_ALLOWED) {
                return false;
            }
            int radius = readNumber(3, 0, MOST_RADIUS);
            if (radius == NOT_ALLOWED) {
                return false;
            }
            plate.note(angle, radius);
            return true;
        }

        /** A digit is allowed only if a number from least to most begins with it and those before it. */
        private int readNumber(int digits, int least, int most) {
            int from = 0;
            int unit = 1;
            for (int i = 0; i < digits; i++) {
                unit *= 10;
            }
            for (int i = 0; i < digits; i++) {
                int digit = next() - '0';
                if (digit < 0 || digit > 9) {
                    return NOT_ALLOWED;
                }
                unit /= 10;
                // The numbers that begin with the digits read so far are those from here on, as many as the unit.
                from += digit * unit;
                if (from > most || from + unit - 1 < least) {
                    return NOT_ALLOWED;
                }
                place++;
            }
            return from;
        }
    }

    /** One command of a script, a group of five digits. */
    private static final class Command {
        static final int GROUP = 100000;
        final int kind;
        final int second;
        final int third;
        final int fourth;
        final int fifth;

        Command(int group) {
            kind = group / 10000 % 10;
            second = group / 1000 % 10;
            third = group / 100 % 10;
            fourth = group / 10 % 10;
            fifth = group % 10;
        }

        private int lastTwo() {
            return 10 * fourth + fifth;
        }

        boolean succeeds(Plate plate, Bench bench) {
            switch (kind) {
                case 1: return changes(plate);
                case 2: return removes(plate);
                case 3: return takesRing(plate);
                case 4: return adds(plate);
                case 5: return sharesEnough(plate, bench);
                case 6: return hasTurns(plate);
                case 7: return isTurned(plate, bench);
                case 8: return third == 0 && lastTwo() == 0 && plate.fitting() >= second;
                case 9: return hasLobes(plate);
                default: return false;
            }
        }

        private boolean changes(Plate plate) {
            Layer a = plate.find(second);
            if (a == null || !plate.allows(third, lastTwo())) {
                return false;
            }
            a.exchange(third, lastTwo());
            return true;
        }

        private boolean removes(Plate plate) {
            if (third != 0 || lastTwo() != 0 || plate.find(second) == null) {
                return false;
            }
            plate.dropLayer(second);
            return true;
        }

        private boolean takesRing(Plate plate) {
            if (second != 0 || third != 0 || !isRing(lastTwo())) {
                return false;
            }
            plate.takeRing(lastTwo());
            return true;
        }

        private boolean adds(Plate plate) {
            int wheel = 10 * third + fourth;
            if (!isSide(second) || !isWheel(wheel) || !isHole(fifth) || plate.isFull()) {
                return false;
            }
            plate.putLayer(wheel, second, fifth, 0);
            return true;
        }

        private boolean sharesEnough(Plate plate, Bench bench) {
            Layer a = plate.find(second);
            Layer b = plate.find(third);
            return a != null && b != null && bench.countCommon(plate.ring, a, b) >= lastTwo();
        }

        private boolean isTurned(Plate plate, Bench bench) {
            Layer a = plate.find(second);
            Layer b = plate.find(third);
            return a != null && b != null && bench.turnBetween(plate.ring, a, b) == lastTwo();
        }

        private boolean hasTurns(Plate plate) {
            Layer a = plate.find(second);
            return a != null && third == 0 && a.turns(plate.ring) == lastTwo();
        }

        private boolean hasLobes(Plate plate) {
            Layer a = plate.find(second);
            return a != null && third == 0 && a.lobes(plate.ring) == lastTwo();
        }
    }
}
