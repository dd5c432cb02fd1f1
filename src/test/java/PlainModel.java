import java.math.BigInteger;
import java.util.ArrayList;
import java.util.Arrays;
import java.util.Collections;
import java.util.List;

/**
 * The document told a second time, slowly and by other means than the class: exact fractions of
 * BigIntegers, MARKS mended anew at each call, rows that really are bytes, shorts and ints, THE HEAP
 * by trying every choice of PARTS. Its methods bear the class's names, so that ModelTest can pair them.
 */
public final class PlainModel {
    private record Fraction(BigInteger above, BigInteger below) {
        static Fraction of(long above, long below) {
            BigInteger a = BigInteger.valueOf(above);
            BigInteger b = BigInteger.valueOf(below);
            BigInteger common = a.gcd(b);
            return new Fraction(a.divide(common), b.divide(common));
        }

        Fraction times(long up, long down) {
            Fraction f = of(up, down);
            BigInteger a = above.multiply(f.above);
            BigInteger b = below.multiply(f.below);
            BigInteger common = a.gcd(b);
            return new Fraction(a.divide(common), b.divide(common));
        }

        Fraction less(Fraction other) {
            BigInteger a = above.multiply(other.below).subtract(other.above.multiply(below));
            BigInteger b = below.multiply(other.below);
            BigInteger common = a.gcd(b);
            return new Fraction(a.divide(common), b.divide(common));
        }

        boolean within(Fraction other) {
            return above.abs().multiply(other.below).compareTo(other.above.multiply(below)) <= 0;
        }
    }

    private record Shaft(Fraction speed, int teeth) { }

    private record Ring(int shaft, int n, int p, int q) { }

    private record Part(int kind, int shaft, List<Fraction> tones) { }

    private static final int[] C = {1000, 981, 924, 831, 707, 556, 383, 195, 0};

    private final List<Shaft> shafts = new ArrayList<>(List.of(new Shaft(Fraction.of(1, 1), 0)));
    private final List<Ring> rings = new ArrayList<>();
    private final List<Integer> marks = new ArrayList<>();
    private final Object[] sheets = new Object[4];
    private final int[] steps = new int[4];
    private List<Integer> mean = null;
    private final List<Fraction> lines = new ArrayList<>();
    private int slip = 10;
    private int a = 150;
    private int b = 120;
    private int u = 2;
    private final List<List<Integer>> readings = List.of(
        new ArrayList<>(), new ArrayList<>(), new ArrayList<>(), new ArrayList<>());
    private final boolean[] warned = new boolean[4];

    public int shaft(int by, int a, int b) {
        if (by < 0 || by >= shafts.size() || a < 5 || a > 200 || b < 5 || b > 200) {
            return -1;
        }
        if (shafts.size() == 4) {
            return -3;
        }
        shafts.add(new Shaft(shafts.get(by).speed.times(a, b), b));
        return shafts.size() - 1;
    }

    public int ring(int shaft, int balls, int p, int q) {
        boolean size = 1 <= p && p < q && q <= 100;
        if (shaft < 0 || shaft >= shafts.size() || balls < 3 || balls > 30 || !size) {
            return -1;
        }
        if (rings.size() == 8) {
            return -3;
        }
        rings.add(new Ring(shaft, balls, p, q));
        return rings.size() - 1;
    }

    public long speed(int shaft, int what) {
        if (shaft < 0 || shaft >= shafts.size() || what < 0 || what > 1) {
            return -1;
        }
        Fraction s = shafts.get(shaft).speed;
        return (what == 0 ? s.above : s.below).longValueExact();
    }

    private List<Part> allParts() {
        List<Part> all = new ArrayList<>();
        for (int i = 0; i < shafts.size(); i++) {
            Fraction s = shafts.get(i).speed;
            all.add(new Part(0, i, List.of(s, s.times(2, 1), s.times(3, 1))));
        }
        for (int i = 1; i < shafts.size(); i++) {
            Fraction f = shafts.get(i).speed.times(shafts.get(i).teeth, 1);
            all.add(new Part(1, i, List.of(f, f.times(2, 1))));
        }
        for (Ring r : rings) {
            Fraction s = shafts.get(r.shaft).speed;
            Fraction outer = s.times(r.n, 1).times(r.q - r.p, 2 * r.q);
            Fraction inner = s.times(r.n, 1).times(r.q + r.p, 2 * r.q);
            Fraction ball = s.times(r.q * r.q - r.p * r.p, 2 * r.p * r.q);
            all.add(new Part(2, r.shaft, List.of(outer, outer.times(2, 1))));
            all.add(new Part(3, r.shaft, List.of(inner, inner.times(2, 1), inner.less(s))));
            all.add(new Part(4, r.shaft, List.of(s.times(r.q - r.p, 2 * r.q))));
            all.add(new Part(5, r.shaft, List.of(ball, ball.times(2, 1))));
        }
        return all;
    }

    public int parts() {
        return allParts().size();
    }

    public int part(int part, int what) {
        List<Part> all = allParts();
        if (part < 0 || part >= all.size() || what < 0 || what > 2) {
            return -1;
        }
        Part p = all.get(part);
        return List.of(p.kind, p.shaft, p.tones.size()).get(what);
    }

    public long tone(int part, int i, int what) {
        List<Part> all = allParts();
        if (part < 0 || part >= all.size() || what < 0 || what > 1) {
            return -1;
        }
        List<Fraction> tones = all.get(part).tones;
        if (i < 0 || i >= tones.size()) {
            return -1;
        }
        return (what == 0 ? tones.get(i).above : tones.get(i).below).longValueExact();
    }

    public int mark(int time) {
        boolean rises = marks.isEmpty() || time > marks.get(marks.size() - 1);
        if (time < 0 || time > 1000000 || !rises) {
            return -1;
        }
        if (marks.size() == 60) {
            return -3;
        }
        marks.add(time);
        return marks.size();
    }

    public int unmark() {
        int had = marks.size();
        marks.clear();
        return had;
    }

    private List<Integer> mended() {
        List<Integer> row = new ArrayList<>();
        for (int i = 0; i < marks.size(); i++) {
            int time = marks.get(i);
            if (i >= 2) {
                int from = row.get(row.size() - 1);
                int w = from - row.get(row.size() - 2);
                int way = time - from;
                if (way > 1.5 * w) {
                    int m = Math.max(2, (int) Math.floor((double) way / w + 0.5));
                    for (int k = 1; k < m; k++) {
                        row.add(from + (int) Math.floorDiv((long) way * k, (long) m));
                    }
                }
            }
            row.add(time);
        }
        return row.size() > 120 ? row.subList(0, 120) : row;
    }

    public int turns() {
        return mended().size();
    }

    public int turn(int i) {
        List<Integer> row = mended();
        return i < 0 || i >= row.size() ? -1 : row.get(i);
    }

    private static int length(Object row) {
        return java.lang.reflect.Array.getLength(row);
    }

    public int sheet(int sheet, int lane, int n, int step) {
        if (sheet < 0 || sheet > 3 || lane < 0 || lane > 2 || n > 200 || step < 1 || step > 1000) {
            return -1;
        }
        if (n < 0) {
            return -14;
        }
        sheets[sheet] = lane == 0 ? new byte[n] : lane == 1 ? new short[n] : new int[n];
        steps[sheet] = step;
        return n;
    }

    public int drop(int sheet) {
        if (sheet < 0 || sheet > 3) {
            return -1;
        }
        if (sheets[sheet] == null) {
            return -11;
        }
        int had = length(sheets[sheet]);
        sheets[sheet] = null;
        return had;
    }

    public int item(int sheet, int lane, int i, int v) {
        if (sheet < 0 || sheet > 3 || lane < 0 || lane > 2 || Math.abs((long) v) > 30000) {
            return -1;
        }
        if (sheets[sheet] == null) {
            return -11;
        }
        try {
            if (lane == 0) {
                ((byte[]) sheets[sheet])[i] = (byte) v;
            } else if (lane == 1) {
                ((short[]) sheets[sheet])[i] = (short) v;
            } else {
                ((int[]) sheets[sheet])[i] = v;
            }
        } catch (ClassCastException wrongLane) {
            return -12;
        } catch (ArrayIndexOutOfBoundsException wrongIndex) {
            return -13;
        }
        return 1;
    }

    private Integer heard(int sheet, int time) {
        Object row = sheets[sheet];
        int step = steps[sheet];
        int n = length(row);
        if (n == 0 || time > (n - 1) * step) {
            return null;
        }
        int i = time / step;
        long here = java.lang.reflect.Array.getLong(row, i);
        if (i * step == time) {
            return (int) here;
        }
        long next = java.lang.reflect.Array.getLong(row, i + 1);
        long behind = time - (long) i * step;
        return (int) Math.floorDiv(here * (step - behind) + next * behind, (long) step);
    }

    public int cut(int sheet, int t, int c) {
        if (sheet < 0 || sheet > 3 || t < 0 || c < 1 || c > 40) {
            return -1;
        }
        if (sheets[sheet] == null) {
            return -11;
        }
        List<Integer> row = mended();
        if ((long) t + c > row.size() - 1 || heard(sheet, row.get(t + c)) == null) {
            return -2;
        }
        List<Integer> means = new ArrayList<>();
        for (int j = 0; j < 32; j++) {
            long sum = 0;
            for (int k = t; k < t + c; k++) {
                sum += heard(sheet, row.get(k) + (row.get(k + 1) - row.get(k)) * j / 32);
            }
            means.add((int) Math.floorDiv(sum, (long) c));
        }
        mean = means;
        return c;
    }

    public int mean(int j) {
        if (j < 0 || j > 31) {
            return -1000001;
        }
        return mean == null ? -1000002 : mean.get(j);
    }

    private static int wave(int i) {
        int k = Math.floorMod(i, 32);
        if (k <= 8) {
            return C[k];
        }
        return k <= 16 ? -wave(16 - k) : wave(32 - k);
    }

    public long strength(int order) {
        if (order < 0 || order > 16) {
            return -1;
        }
        if (mean == null) {
            return -2;
        }
        BigInteger along = BigInteger.ZERO;
        BigInteger across = BigInteger.ZERO;
        for (int j = 0; j < 32; j++) {
            BigInteger m = BigInteger.valueOf(mean.get(j));
            along = along.add(m.multiply(BigInteger.valueOf(wave(order * j))));
            across = across.add(m.multiply(BigInteger.valueOf(wave(order * j - 8))));
        }
        return along.pow(2).add(across.pow(2)).divide(BigInteger.valueOf(1000000)).longValueExact();
    }

    public int line(int above, int below) {
        if (above < 1 || above > 10000 || below < 1 || below > 10000) {
            return -1;
        }
        if (lines.size() == 12) {
            return -3;
        }
        lines.add(Fraction.of(above, below));
        return lines.size() - 1;
    }

    public int unline() {
        int had = lines.size();
        lines.clear();
        return had;
    }

    public int slip(int e) {
        if (e < 0 || e > 100) {
            return -1;
        }
        int had = slip;
        slip = e;
        return had;
    }

    private int near(Fraction tone) {
        int bits = 0;
        for (int i = 0; i < lines.size(); i++) {
            if (lines.get(i).less(tone).within(tone.times(slip, 1000))) {
                bits |= 1 << i;
            }
        }
        return bits;
    }

    private int explained(Part p) {
        return p.tones.stream().mapToInt(this::near).reduce(0, (x, y) -> x | y);
    }

    private boolean nameable(Part p) {
        return p.tones.stream().allMatch(tone -> near(tone) != 0);
    }

    public int explains(int part) {
        List<Part> all = allParts();
        return part < 0 || part >= all.size() ? -1 : explained(all.get(part));
    }

    public int named(int part) {
        List<Part> all = allParts();
        if (part < 0 || part >= all.size()) {
            return -1;
        }
        return nameable(all.get(part)) ? 1 : 0;
    }

    private List<Integer> theHeap() {
        List<Part> all = allParts();
        List<Integer> names = new ArrayList<>();
        List<Integer> bits = new ArrayList<>();
        for (int i = 0; i < all.size(); i++) {
            if (nameable(all.get(i))) {
                names.add(i);
                bits.add(explained(all.get(i)));
            }
        }
        int goal = bits.stream().reduce(0, (x, y) -> x | y);
        for (int size = 0; size <= names.size(); size++) {
            List<Integer> found = choice(names, bits, 0, size, goal);
            if (found != null) {
                return found;
            }
        }
        throw new IllegalStateException("all of them explain what any explains");
    }

    /** Every choice of so many, the least PARTS first; the first that leaves nothing of the goal. */
    private static List<Integer> choice(List<Integer> names, List<Integer> bits, int from, int size, int goal) {
        if (size == 0) {
            return goal == 0 ? new ArrayList<>() : null;
        }
        for (int i = from; i + size <= names.size(); i++) {
            List<Integer> rest = choice(names, bits, i + 1, size - 1, goal & ~bits.get(i));
            if (rest != null) {
                rest.add(0, names.get(i));
                return rest;
            }
        }
        return null;
    }

    public int heap(int i) {
        List<Integer> heap = theHeap();
        if (i == -1) {
            return heap.size();
        }
        return i < 0 || i >= heap.size() ? -1 : heap.get(i);
    }

    public int strange() {
        int bits = (1 << lines.size()) - 1;
        for (Part p : allParts()) {
            if (nameable(p)) {
                bits &= ~explained(p);
            }
        }
        return bits;
    }

    public int laws(int a, int b, int u) {
        if (a < 1 || a > 1000 || b < 1 || b > 1000 || u < 1 || u > 4 || b > a) {
            return -1;
        }
        this.a = a;
        this.b = b;
        this.u = u;
        return 1;
    }

    public int reading(int load, int v) {
        if (load < 0 || load > 3 || v < 0 || v > 1000000) {
            return -1;
        }
        List<Integer> row = readings.get(load);
        if (row.size() == 200) {
            return -3;
        }
        row.add(v);
        if (row.size() > 5) {
            long base = baseline(load);
            List<Integer> behind = row.subList(5, row.size());
            List<Integer> latest = behind.subList(Math.max(0, behind.size() - u), behind.size());
            if (latest.size() == u && latest.stream().allMatch(r -> 100L * r > a * base)) {
                warned[load] = true;
            }
            if (100L * v < b * base) {
                warned[load] = false;
            }
        }
        return row.size();
    }

    public int baseline(int load) {
        if (load < 0 || load > 3) {
            return -1;
        }
        if (readings.get(load).size() < 5) {
            return -4;
        }
        List<Integer> first = new ArrayList<>(readings.get(load).subList(0, 5));
        Collections.sort(first);
        return first.get(2);
    }

    public int warned(int load) {
        if (load < 0 || load > 3) {
            return -1;
        }
        return warned[load] ? 1 : 0;
    }

    public int repair() {
        int were = 0;
        for (boolean w : warned) {
            were += w ? 1 : 0;
        }
        Arrays.fill(warned, false);
        readings.forEach(List::clear);
        return were;
    }
}
