/** Promises 25 to 29: laws, READINGS, BASELINE, WARNED, repair. */
public final class ReadingsTest {
    private static final Due DUE = new Due();

    public static void main(String[] args) {
        laws();
        readings();
        full();
        baselines();
        warnedAtFirst();
        warnedByTwo();
        warnedEdges();
        lawsHoldFromTheNext();
        notAheadOfTheSixth();
        zeroBaseline();
        largest();
        repairs();
        refusals();
        DUE.end();
    }

    private static WornRings read(int load, int... values) {
        WornRings x = new WornRings();
        for (int i = 0; i < values.length; i++) {
            DUE.is("reading(" + load + ", " + values[i] + ")", x.reading(load, values[i]), i + 1);
        }
        return x;
    }

    private static void warnedIs(WornRings x, int v, int due) {
        x.reading(0, v);
        DUE.is("warned behind " + v, x.warned(0), due);
    }

    private static void laws() {
        WornRings x = new WornRings();
        DUE.is("the least", x.laws(1, 1, 1), 1);
        DUE.is("the most", x.laws(1000, 1000, 4), 1);
        DUE.is("a 0", x.laws(0, 1, 1), WornRings.BAD);
        DUE.is("a 1001", x.laws(1001, 1, 1), WornRings.BAD);
        DUE.is("b 0", x.laws(1, 0, 1), WornRings.BAD);
        DUE.is("b 1001", x.laws(1000, 1001, 1), WornRings.BAD);
        DUE.is("b above a", x.laws(5, 6, 1), WornRings.BAD);
        DUE.is("u 0", x.laws(5, 5, 0), WornRings.BAD);
        DUE.is("u 5", x.laws(5, 5, 5), WornRings.BAD);
        x = read(0, 100, 100, 100, 100, 100);
        x.laws(100, 101, 1);
        warnedIs(x, 151, 0);
        warnedIs(x, 151, 1);
    }

    private static void readings() {
        WornRings x = read(0, 0, 1000000);
        DUE.is("another LOAD", x.reading(3, 5), 1);
        DUE.is("v -1", x.reading(0, -1), WornRings.BAD);
        DUE.is("v 1000001", x.reading(0, 1000001), WornRings.BAD);
        DUE.is("load -1", x.reading(-1, 0), WornRings.BAD);
        DUE.is("load 4", x.reading(4, 0), WornRings.BAD);
        DUE.is("what was refused is not counted", x.reading(0, 7), 3);
    }

    private static void full() {
        WornRings x = new WornRings();
        for (int i = 1; i <= 200; i++) {
            DUE.is("reading " + i, x.reading(1, i), i);
        }
        DUE.is("one too many", x.reading(1, 0), WornRings.FULL);
        DUE.is("BAD is named ahead of FULL", x.reading(1, -1), WornRings.BAD);
        DUE.is("warned as it was", x.warned(1), 1);
        DUE.is("the BASELINE as it was", x.baseline(1), 3);
        DUE.is("another LOAD has room", x.reading(2, 0), 1);
        x.repair();
        DUE.is("room behind a repair", x.reading(1, 0), 1);
    }

    private static void baselines() {
        int[][] orders = {{1, 2, 3, 4, 5}, {5, 4, 3, 2, 1}, {3, 1, 5, 2, 4}, {3, 3, 3, 1, 9}, {9, 3, 1, 3, 3}, {3, 3, 9, 9, 0}};
        for (int[] order : orders) {
            WornRings x = new WornRings();
            for (int i = 0; i < 5; i++) {
                DUE.is("NONE ahead of the fifth", x.baseline(2), WornRings.NONE);
                x.reading(2, order[i]);
            }
            DUE.is("the middle one", x.baseline(2), 3);
            x.reading(2, 1000);
            x.reading(2, 1000);
            DUE.is("of the first five alone", x.baseline(2), 3);
            DUE.is("of its own LOAD alone", x.baseline(1), WornRings.NONE);
        }
    }

    private static void warnedAtFirst() {
        WornRings x = new WornRings();
        for (int i = 0; i < 4; i++) {
            DUE.is("not at first", x.warned(i), 0);
        }
    }

    private static void warnedByTwo() {
        WornRings x = read(0, 100, 100, 100, 100, 100);
        warnedIs(x, 151, 0);
        warnedIs(x, 150, 0);
        warnedIs(x, 151, 0);
        warnedIs(x, 151, 1);
        warnedIs(x, 130, 1);
        warnedIs(x, 120, 1);
        warnedIs(x, 119, 0);
        warnedIs(x, 130, 0);
        warnedIs(x, 500, 0);
        warnedIs(x, 500, 1);
        DUE.is("another LOAD is not", x.warned(1), 0);
    }

    private static void warnedEdges() {
        // 110 hundredths of 102 are 112.2, 100 hundredths are 102.
        WornRings x = read(0, 100, 107, 101, 108, 102);
        x.laws(110, 100, 1);
        warnedIs(x, 112, 0);
        warnedIs(x, 113, 1);
        warnedIs(x, 102, 1);
        warnedIs(x, 101, 0);
        // 105 hundredths of 102 are 107.1, 101 hundredths are 103.02.
        x.laws(105, 101, 1);
        warnedIs(x, 107, 0);
        warnedIs(x, 108, 1);
        warnedIs(x, 104, 1);
        warnedIs(x, 103, 0);
    }

    private static void lawsHoldFromTheNext() {
        WornRings x = read(0, 100, 100, 100, 100, 100, 120, 120, 120);
        x.laws(110, 100, 4);
        DUE.is("not at once", x.warned(0), 0);
        warnedIs(x, 111, 1);
        x.laws(1000, 1000, 1);
        DUE.is("still", x.warned(0), 1);
        warnedIs(x, 999, 0);
        x.laws(110, 100, 3);
        warnedIs(x, 111, 1);
    }

    private static void notAheadOfTheSixth() {
        WornRings x = new WornRings();
        x.laws(100, 1, 1);
        for (int i = 0; i < 4; i++) {
            warnedIs(x, 100, 0);
        }
        warnedIs(x, 1000, 0);
        warnedIs(x, 101, 1);
        x = read(0, 100, 100, 100, 900, 900);
        x.laws(150, 120, 4);
        warnedIs(x, 900, 0);
        warnedIs(x, 900, 0);
        warnedIs(x, 900, 0);
        warnedIs(x, 900, 1);
    }

    private static void zeroBaseline() {
        WornRings x = read(0, 0, 0, 0, 0, 0);
        warnedIs(x, 0, 0);
        warnedIs(x, 1, 0);
        warnedIs(x, 1, 1);
        warnedIs(x, 0, 1);
    }

    private static void largest() {
        WornRings x = read(0, 1000000, 1000000, 1000000, 1000000, 1000000);
        x.laws(1000, 1000, 1);
        warnedIs(x, 1000000, 0);
        x.laws(100, 100, 1);
        warnedIs(x, 1000000, 0);
        x.laws(99, 99, 1);
        warnedIs(x, 1000000, 1);
        x.laws(1000, 1000, 1);
        warnedIs(x, 1000000, 0);
    }

    private static void repairs() {
        WornRings x = new WornRings();
        x.laws(100, 100, 1);
        for (int load = 0; load < 3; load++) {
            for (int i = 0; i < 5; i++) {
                x.reading(load, 10);
            }
            x.reading(load, load == 1 ? 10 : 11);
        }
        DUE.is("two were", x.repair(), 2);
        DUE.is("none is any more", x.repair(), 0);
        for (int load = 0; load < 4; load++) {
            DUE.is("not warned", x.warned(load), 0);
            DUE.is("no BASELINE", x.baseline(load), WornRings.NONE);
            DUE.is("from 1 again", x.reading(load, 20), 1);
        }
        for (int i = 2; i < 6; i++) {
            x.reading(0, 20);
        }
        DUE.is("a new BASELINE", x.baseline(0), 20);
        warnedIs(x, 20, 0);
        warnedIs(x, 21, 1);
    }

    private static void refusals() {
        WornRings x = new WornRings();
        DUE.is("baseline(-1)", x.baseline(-1), WornRings.BAD);
        DUE.is("baseline(4)", x.baseline(4), WornRings.BAD);
        DUE.is("warned(-1)", x.warned(-1), WornRings.BAD);
        DUE.is("warned(4)", x.warned(4), WornRings.BAD);
        DUE.is("warned far above", x.warned(Integer.MAX_VALUE), WornRings.BAD);
    }
}
