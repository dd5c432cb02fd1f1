/**
 * Machines that turn, heard for years: shafts, gears and ring bearings with their tones, turn marks
 * and sounds, lines laid to parts, readings with their baselines and warnings. No call throws: what
 * is refused is answered by one of the constants and changes nothing.
 */
public final class WornRings {
    public static final int BAD = -1, NOT = -2, FULL = -3, NONE = -4, NULL = -11, CAST = -12, INDEX = -13, SIZE = -14;

    private static final int MOST_SHAFTS = 4;
    private static final int MOST_RINGS = 8;
    private static final int RING_KINDS = 4;
    private static final int MOST_PARTS = 2 * MOST_SHAFTS - 1 + MOST_RINGS * RING_KINDS;
    private static final int MOST_TONES = 3;
    private static final int MOST_MARKS = 60;
    private static final int MOST_MENDED = 120;
    private static final int LAST_TIME = 1000000;
    private static final int MOST_SHEETS = 4;
    private static final int MOST_LANES = 3;
    private static final int MOST_ITEMS = 200;
    private static final int MOST_STEP = 1000;
    private static final int ITEM_RANGE = 30000;
    private static final int VALUES = 32;
    private static final int MOST_CUT = 40;
    private static final int MOST_ORDER = 16;
    private static final int MEAN_REFUSED = -1000000;
    private static final int MOST_LINES = 12;
    private static final int LINE_RANGE = 10000;
    private static final int MOST_SLIP = 100;
    private static final int MOST_LOADS = 4;
    private static final int MOST_READINGS = 200;
    private static final int READING_RANGE = 1000000;
    private static final int FIRST_READINGS = 5;
    private static final int MOST_LAW = 1000;
    private static final int MOST_LATEST = 4;
    // Two longs never need more steps of division than this to show their common divisor.
    private static final int EUCLID_STEPS = 100;
    private static final int[] QUARTER = {1000, 981, 924, 831, 707, 556, 383, 195, 0};

    private final Machine machine = new Machine();
    private final Marks marks = new Marks();
    private final Sheet[] sheets = new Sheet[MOST_SHEETS];
    private final Mean average = new Mean();
    private final Lines lines = new Lines();
    private final Heap fewestParts = new Heap();
    private final Load[] loads = new Load[MOST_LOADS];
    private int warnAbove = 150;
    private int calmBelow = 120;
    private int latest = 2;

    public WornRings() {
        for (int i = 0; i < sheets.length; i++) {
            sheets[i] = new Sheet();
        }
        for (int i = 0; i < loads.length; i++) {
            loads[i] = new Load();
        }
    }

    public int shaft(int by, int a, int b) {
        int answer = machine.addShaft(by, a, b);
        if (answer >= 0) {
            fewestParts.forget();
        }
        return answer;
    }

    public int ring(int shaft, int balls, int p, int q) {
        int answer = machine.addRing(shaft, balls, p, q);
        if (answer >= 0) {
            fewestParts.forget();
        }
        return answer;
    }

    public long speed(int shaft, int what) {
        if (!machine.hasShaft(shaft) || !within(what, 0, 1)) {
            return BAD;
        }
        return what == 0 ? machine.speedAbove(shaft) : machine.speedBelow(shaft);
    }

    public int parts() {
        return machine.countParts();
    }

    public int part(int part, int what) {
        Part found = machine.find(part);
        if (found == null || !within(what, 0, 2)) {
            return BAD;
        }
        if (what == 0) {
            return found.kind;
        }
        return what == 1 ? found.seat : found.count;
    }

    public long tone(int part, int i, int what) {
        Part found = machine.find(part);
        if (found == null || !within(i, 0, found.count - 1) || !within(what, 0, 1)) {
            return BAD;
        }
        return what == 0 ? found.above[i] : found.below[i];
    }

    public int mark(int time) {
        return marks.add(time);
    }

    public int unmark() {
        return marks.clear();
    }

    public int turns() {
        return marks.kept;
    }

    public int turn(int i) {
        return within(i, 0, marks.kept - 1) ? marks.mended[i] : BAD;
    }

    public int sheet(int sheet, int lane, int n, int step) {
        if (!within(sheet, 0, MOST_SHEETS - 1) || !within(lane, 0, MOST_LANES - 1)
                || n > MOST_ITEMS || !within(step, 1, MOST_STEP)) {
            return BAD;
        }
        if (n < 0) {
            return SIZE;
        }
        sheets[sheet].begin(lane, n, step);
        return n;
    }

    public int drop(int sheet) {
        if (!within(sheet, 0, MOST_SHEETS - 1)) {
            return BAD;
        }
        if (!sheets[sheet].held) {
            return NULL;
        }
        sheets[sheet].held = false;
        return sheets[sheet].length;
    }

    public int item(int sheet, int lane, int i, int v) {
        if (!within(sheet, 0, MOST_SHEETS - 1) || !within(lane, 0, MOST_LANES - 1)
                || !within(v, -ITEM_RANGE, ITEM_RANGE)) {
            return BAD;
        }
        Sheet row = sheets[sheet];
        if (!row.held) {
            return NULL;
        }
        if (row.lane != lane) {
            return CAST;
        }
        if (!within(i, 0, row.length - 1)) {
            return INDEX;
        }
        row.put(i, v);
        return 1;
    }

    public int cut(int sheet, int t, int c) {
        if (!within(sheet, 0, MOST_SHEETS - 1) || t < 0 || !within(c, 1, MOST_CUT)) {
            return BAD;
        }
        Sheet row = sheets[sheet];
        if (!row.held) {
            return NULL;
        }
        // TURNS go on to their ends: a row that ends ahead of the last one's is not heard so long.
        if (!marks.hasTurns(t, c) || marks.endOf(t + c - 1) > row.lastHeard()) {
            return NOT;
        }
        average.take(row, marks, t, c);
        return c;
    }

    public int mean(int j) {
        if (!within(j, 0, VALUES - 1)) {
            return MEAN_REFUSED + BAD;
        }
        return average.told ? average.values[j] : MEAN_REFUSED + NOT;
    }

    public long strength(int order) {
        if (!within(order, 0, MOST_ORDER)) {
            return BAD;
        }
        return average.told ? average.strengthAt(order) : NOT;
    }

    public int line(int above, int below) {
        int answer = lines.add(above, below);
        if (answer >= 0) {
            fewestParts.forget();
        }
        return answer;
    }

    public int unline() {
        int had = lines.count;
        lines.count = 0;
        fewestParts.forget();
        return had;
    }

    public int slip(int e) {
        if (!within(e, 0, MOST_SLIP)) {
            return BAD;
        }
        int had = lines.thousandths;
        lines.thousandths = e;
        fewestParts.forget();
        return had;
    }

    public int explains(int part) {
        Part found = machine.find(part);
        return found == null ? BAD : lines.explainedBy(found);
    }

    public int named(int part) {
        Part found = machine.find(part);
        if (found == null) {
            return BAD;
        }
        return lines.allTonesSeen(found) ? 1 : 0;
    }

    public int heap(int i) {
        fewestParts.layDown(machine, lines);
        if (i == -1) {
            return fewestParts.size;
        }
        return within(i, 0, fewestParts.size - 1) ? fewestParts.chosen[i] : BAD;
    }

    public int strange() {
        fewestParts.layDown(machine, lines);
        return lines.allBits() & ~fewestParts.together;
    }

    public int laws(int a, int b, int u) {
        if (!within(a, 1, MOST_LAW) || !within(b, 1, a) || !within(u, 1, MOST_LATEST)) {
            return BAD;
        }
        warnAbove = a;
        calmBelow = b;
        latest = u;
        return 1;
    }

    public int reading(int load, int v) {
        if (!within(load, 0, MOST_LOADS - 1) || !within(v, 0, READING_RANGE)) {
            return BAD;
        }
        Load one = loads[load];
        if (one.count >= MOST_READINGS) {
            return FULL;
        }
        one.add(v);
        one.judge(warnAbove, calmBelow, latest);
        return one.count;
    }

    public int baseline(int load) {
        if (!within(load, 0, MOST_LOADS - 1)) {
            return BAD;
        }
        return loads[load].count < FIRST_READINGS ? NONE : loads[load].middle;
    }

    public int warned(int load) {
        if (!within(load, 0, MOST_LOADS - 1)) {
            return BAD;
        }
        return loads[load].warning ? 1 : 0;
    }

    public int repair() {
        int were = 0;
        for (int i = 0; i < loads.length; i++) {
            if (loads[i].warning) {
                were++;
            }
            loads[i].clear();
        }
        return were;
    }

    private static boolean within(int v, int least, int most) {
        return v >= least && v <= most;
    }

    /** Never less than 1, so that it can be divided by. */
    private static long commonDivisor(long a, long b) {
        long large = a;
        long small = b;
        for (int i = 0; i < EUCLID_STEPS && small != 0; i++) {
            long rest = large % small;
            large = small;
            small = rest;
        }
        return Math.max(1L, large);
    }

    private static int cosine(int i) {
        int whole = Math.floorMod(i, VALUES);
        int half = whole > VALUES / 2 ? VALUES - whole : whole;
        return half > VALUES / 4 ? -QUARTER[VALUES / 2 - half] : QUARTER[half];
    }

    /** A PART with its TONES, each without common divisors. */
    private static final class Part {
        private final int kind;
        private final int seat;
        private final long[] above = new long[MOST_TONES];
        private final long[] below = new long[MOST_TONES];
        private int count;

        Part(int kind, int seat) {
            this.kind = kind;
            this.seat = seat;
        }

        void addTone(long up, long down) {
            if (count >= MOST_TONES) {
                return;
            }
            long common = commonDivisor(up, down);
            above[count] = up / common;
            below[count] = down / common;
            count++;
        }
    }

    /** SHAFTS, GEARS and RINGS. They never go, so their PARTS are made once, as they come. */
    private static final class Machine {
        private final long[] above = new long[MOST_SHAFTS];
        private final long[] below = new long[MOST_SHAFTS];
        private final Part[] own = new Part[MOST_SHAFTS];
        private final Part[] gears = new Part[MOST_SHAFTS];
        private final Part[] onRings = new Part[MOST_RINGS * RING_KINDS];
        private int shafts;
        private int rings;

        Machine() {
            above[0] = 1;
            below[0] = 1;
            own[0] = ownPart(0);
            shafts = 1;
        }

        int addShaft(int by, int a, int b) {
            if (!hasShaft(by) || !within(a, 5, 200) || !within(b, 5, 200)) {
                return BAD;
            }
            if (shafts >= MOST_SHAFTS) {
                return FULL;
            }
            int added = shafts;
            long up = above[by] * a;
            long down = below[by] * b;
            long common = commonDivisor(up, down);
            above[added] = up / common;
            below[added] = down / common;
            own[added] = ownPart(added);
            // SHAFT 0 has no GEARS: those of SHAFT 1 come first.
            gears[added - 1] = gearPart(added, b);
            shafts++;
            return added;
        }

        int addRing(int seat, int balls, int p, int q) {
            if (!hasShaft(seat) || !within(balls, 3, 30) || !within(q, 2, 100) || !within(p, 1, q - 1)) {
                return BAD;
            }
            if (rings >= MOST_RINGS) {
                return FULL;
            }
            int first = rings * RING_KINDS;
            onRings[first] = outerPart(seat, balls, p, q);
            onRings[first + 1] = innerPart(seat, balls, p, q);
            onRings[first + 2] = cagePart(seat, p, q);
            onRings[first + 3] = ballsPart(seat, p, q);
            rings++;
            return rings - 1;
        }

        boolean hasShaft(int number) {
            return within(number, 0, shafts - 1);
        }

        long speedAbove(int number) {
            return hasShaft(number) ? above[number] : BAD;
        }

        long speedBelow(int number) {
            return hasShaft(number) ? below[number] : BAD;
        }

        int countParts() {
            return 2 * shafts - 1 + rings * RING_KINDS;
        }

        /** Null where no PART bears the number. */
        Part find(int number) {
            if (number < 0 || number >= countParts()) {
                return null;
            }
            if (number < shafts) {
                return own[number];
            }
            int behindShafts = number - shafts;
            if (behindShafts < shafts - 1) {
                return gears[behindShafts];
            }
            return onRings[behindShafts - (shafts - 1)];
        }

        private Part ownPart(int seat) {
            Part made = new Part(0, seat);
            addMultiple(made, 1, 1);
            addMultiple(made, 2, 1);
            addMultiple(made, 3, 1);
            return made;
        }

        private Part gearPart(int seat, int teeth) {
            Part made = new Part(1, seat);
            addMultiple(made, teeth, 1);
            addMultiple(made, 2 * teeth, 1);
            return made;
        }

        private Part outerPart(int seat, int balls, int p, int q) {
            Part made = new Part(2, seat);
            addMultiple(made, balls * (q - p), 2 * q);
            addMultiple(made, 2 * balls * (q - p), 2 * q);
            return made;
        }

        private Part innerPart(int seat, int balls, int p, int q) {
            Part made = new Part(3, seat);
            addMultiple(made, balls * (q + p), 2 * q);
            addMultiple(made, 2 * balls * (q + p), 2 * q);
            addMultiple(made, balls * (q + p) - 2 * q, 2 * q);
            return made;
        }

        private Part cagePart(int seat, int p, int q) {
            Part made = new Part(4, seat);
            addMultiple(made, q - p, 2 * q);
            return made;
        }

        private Part ballsPart(int seat, int p, int q) {
            Part made = new Part(5, seat);
            addMultiple(made, q * q - p * p, 2 * p * q);
            addMultiple(made, 2 * (q * q - p * p), 2 * p * q);
            return made;
        }

        private void addMultiple(Part made, int up, int down) {
            made.addTone(above[made.seat] * up, below[made.seat] * down);
        }
    }

    /** MARKS. Each is mended from those ahead of it alone, so the mended row grows with them. */
    private static final class Marks {
        private final int[] mended = new int[MOST_MENDED];
        private int kept;
        private int count;
        private int last;

        int add(int time) {
            if (!within(time, 0, LAST_TIME) || (count > 0 && time <= last)) {
                return BAD;
            }
            if (count >= MOST_MARKS) {
                return FULL;
            }
            mendUpTo(time);
            keep(time);
            last = time;
            count++;
            return count;
        }

        int clear() {
            int had = count;
            count = 0;
            kept = 0;
            return had;
        }

        boolean hasTurns(int first, int many) {
            return first >= 0 && many > 0 && first <= kept - 1 - many;
        }

        int endOf(int number) {
            return hasTurns(number, 1) ? mended[number + 1] : LAST_TIME;
        }

        int timeIn(int number, int j) {
            if (!hasTurns(number, 1)) {
                return LAST_TIME;
            }
            int length = mended[number + 1] - mended[number];
            return mended[number] + length * j / VALUES;
        }

        private void mendUpTo(int time) {
            // A full row does not end at the latest MARK any more, and takes nothing behind it.
            if (kept < 2 || kept >= MOST_MENDED) {
                return;
            }
            int from = mended[kept - 1];
            int usual = from - mended[kept - 2];
            int way = time - from;
            if (usual < 1 || 2 * way <= 3 * usual) {
                return;
            }
            int fit = Math.max(2, (2 * way + usual) / (2 * usual));
            for (int k = 1; k < fit && kept < MOST_MENDED; k++) {
                keep(from + (int) ((long) way * k / fit));
            }
        }

        private void keep(int time) {
            if (kept < MOST_MENDED) {
                mended[kept] = time;
                kept++;
            }
        }
    }

    /** A SHEET. One row of ints serves every LANE: the LANE's width is in the values that are put. */
    private static final class Sheet {
        private final int[] items = new int[MOST_ITEMS];
        private boolean held;
        private int lane;
        private int length;
        private int step = 1;

        void begin(int newLane, int newLength, int newStep) {
            held = true;
            lane = newLane;
            length = newLength;
            step = newStep;
            for (int i = 0; i < items.length; i++) {
                items[i] = 0;
            }
        }

        void put(int i, int v) {
            if (!within(i, 0, length - 1)) {
                return;
            }
            if (lane == 0) {
                items[i] = (byte) v;
            } else if (lane == 1) {
                items[i] = (short) v;
            } else {
                items[i] = v;
            }
        }

        /** Below 0 for a row without items: it is not heard at any time. */
        int lastHeard() {
            return (length - 1) * step;
        }

        int valueAt(int time) {
            if (step < 1 || !within(time, 0, lastHeard())) {
                return 0;
            }
            int i = time / step;
            int behind = time % step;
            if (behind == 0) {
                return items[i];
            }
            // The time is ahead of the last item's, so there is an item at i + 1.
            return items[i] + Math.floorDiv((items[i + 1] - items[i]) * behind, step);
        }
    }

    /** THE MEAN: what was cut stays as it was, whatever becomes of the SHEET and the MARKS. */
    private static final class Mean {
        private final int[] values = new int[VALUES];
        private boolean told;

        void take(Sheet row, Marks marks, int first, int many) {
            if (many < 1) {
                return;
            }
            for (int j = 0; j < VALUES; j++) {
                int sum = 0;
                for (int k = 0; k < many; k++) {
                    sum += row.valueAt(marks.timeIn(first + k, j));
                }
                values[j] = Math.floorDiv(sum, many);
            }
            told = true;
        }

        long strengthAt(int order) {
            long along = 0;
            long across = 0;
            for (int j = 0; j < VALUES; j++) {
                along += (long) values[j] * cosine(order * j);
                across += (long) values[j] * cosine(order * j - VALUES / 4);
            }
            return (along * along + across * across) / 1000000;
        }
    }

    /** LINES and the slip. A fraction's products stay below 2 to the 61st, so longs hold them. */
    private static final class Lines {
        private final int[] above = new int[MOST_LINES];
        private final int[] below = new int[MOST_LINES];
        private int count;
        private int thousandths = 10;

        int add(int up, int down) {
            if (!within(up, 1, LINE_RANGE) || !within(down, 1, LINE_RANGE)) {
                return BAD;
            }
            if (count >= MOST_LINES) {
                return FULL;
            }
            above[count] = up;
            below[count] = down;
            count++;
            return count - 1;
        }

        int allBits() {
            return (1 << count) - 1;
        }

        int explainedBy(Part one) {
            int bits = 0;
            for (int i = 0; i < one.count; i++) {
                bits |= near(one.above[i], one.below[i]);
            }
            return bits;
        }

        boolean allTonesSeen(Part one) {
            for (int i = 0; i < one.count; i++) {
                if (near(one.above[i], one.below[i]) == 0) {
                    return false;
                }
            }
            return true;
        }

        private int near(long toneAbove, long toneBelow) {
            int bits = 0;
            for (int i = 0; i < count; i++) {
                long tone = toneAbove * below[i];
                long away = Math.abs(above[i] * toneBelow - tone);
                if (away * 1000 <= thousandths * tone) {
                    bits |= 1 << i;
                }
            }
            return bits;
        }
    }

    /** THE HEAP, laid down when it is asked for and kept until PARTS, LINES or the slip change. */
    private static final class Heap {
        private final int[] numbers = new int[MOST_PARTS];
        private final int[] explained = new int[MOST_PARTS];
        private final byte[] fewest = new byte[1 << MOST_LINES];
        private final int[] chosen = new int[MOST_LINES];
        private int candidates;
        private int together;
        private int size;
        private boolean laid;

        void forget() {
            laid = false;
        }

        void layDown(Machine machine, Lines lines) {
            if (laid) {
                return;
            }
            gather(machine, lines);
            countFewest();
            choose();
            laid = true;
        }

        private void gather(Machine machine, Lines lines) {
            candidates = 0;
            together = 0;
            for (int i = 0; i < MOST_PARTS; i++) {
                Part one = machine.find(i);
                if (one != null && lines.allTonesSeen(one)) {
                    numbers[candidates] = i;
                    explained[candidates] = lines.explainedBy(one);
                    together |= explained[candidates];
                    candidates++;
                }
            }
        }

        /** For each choice of LINES out of those to be explained, how few candidates explain it. */
        private void countFewest() {
            fewest[0] = 0;
            for (int open = 1; open <= together && open < fewest.length; open++) {
                if ((open & ~together) == 0) {
                    fewest[open] = (byte) fewestFor(open);
                }
            }
        }

        private int fewestFor(int open) {
            // Some candidate must explain the lowest LINE: no other need be tried first.
            int lowest = open & -open;
            int best = MOST_LINES;
            for (int i = 0; i < candidates; i++) {
                if ((explained[i] & lowest) != 0) {
                    best = Math.min(best, 1 + fewest[open & ~explained[i]]);
                }
            }
            return best;
        }

        /**
         * Takes the least candidate that belongs to some fewest choice, then the same for what it
         * leaves open. A lesser one than that cannot come later, or it would have been taken first.
         */
        private void choose() {
            size = 0;
            int open = together;
            for (int i = 0; i < candidates && open != 0 && size < MOST_LINES; i++) {
                int rest = open & ~explained[i];
                if (fewest[rest] + 1 == fewest[open]) {
                    chosen[size] = numbers[i];
                    size++;
                    open = rest;
                }
            }
        }
    }

    /** A LOAD with its READINGS since the latest repair. */
    private static final class Load {
        private final int[] readings = new int[MOST_READINGS];
        private int count;
        private int middle;
        private boolean warning;

        void add(int v) {
            if (count >= MOST_READINGS) {
                return;
            }
            readings[count] = v;
            count++;
            if (count == FIRST_READINGS) {
                middle = middleOfFirst();
            }
        }

        void clear() {
            count = 0;
            warning = false;
        }

        void judge(int above, int below, int many) {
            if (count <= FIRST_READINGS) {
                return;
            }
            if (latestAllAbove(above, many)) {
                warning = true;
            } else if (readings[count - 1] * 100L < (long) below * middle) {
                warning = false;
            }
        }

        private boolean latestAllAbove(int hundredths, int many) {
            if (count - FIRST_READINGS < many) {
                return false;
            }
            for (int i = count - many; i < count; i++) {
                if (readings[i] * 100L <= (long) hundredths * middle) {
                    return false;
                }
            }
            return true;
        }

        private int middleOfFirst() {
            for (int i = 0; i < FIRST_READINGS; i++) {
                if (countFirst(readings[i], true) <= FIRST_READINGS / 2
                        && countFirst(readings[i], false) <= FIRST_READINGS / 2) {
                    return readings[i];
                }
            }
            return readings[0];
        }

        private int countFirst(int v, boolean less) {
            int many = 0;
            for (int i = 0; i < FIRST_READINGS; i++) {
                if (less ? readings[i] < v : readings[i] > v) {
                    many++;
                }
            }
            return many;
        }
    }
}
