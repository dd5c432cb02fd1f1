/** Promises 25 to 29 and the Terms of READINGS: each sentence at its edges. */
public final class ReadingsEdgesTest {
    private static final int BAD = WornRings.BAD;
    private static final int NONE = WornRings.NONE;
    private static final int FULL = WornRings.FULL;

    public static void main(String[] args) throws IllegalAccessException {
        Edges.run(ReadingsEdgesTest.class);
    }

    private static WornRings read(WornRings x, int load, int... values) {
        for (int v : values) {
            x.reading(load, v);
        }
        return x;
    }

    /** LOAD 0 with a BASELINE of 100. */
    private static WornRings hundred(int... behind) {
        return read(read(new WornRings(), 0, 100, 100, 100, 100, 100), 0, behind);
    }

    private static WornRings hundredBy(int a, int b, int u, int... behind) {
        WornRings x = hundred();
        x.laws(a, b, u);
        return read(x, 0, behind);
    }

    private static WornRings so(int many, int load, int v) {
        WornRings x = new WornRings();
        for (int i = 0; i < many; i++) {
            x.reading(load, v);
        }
        return x;
    }

    // ---- Promise 25: laws

    @Says(in = "Promise 25", words = "The laws a, b (1 .. 1000 each), u: 1.")
    static void lawsAtTheirEdges(Edges e) {
        e.range("a", 1, 1000, BAD, a -> new WornRings().laws(a, 1, 2));
        e.range("b", 1, 1000, BAD, b -> new WornRings().laws(1000, b, 2));
        e.range("u", 1, 4, BAD, u -> new WornRings().laws(150, 120, u));
        e.is("all the least", new WornRings().laws(1, 1, 1), 1);
        e.is("all the most", new WornRings().laws(1000, 1000, 4), 1);
        e.is("1 hundredth of 100: 1", hundredBy(1, 1, 1, 1).warned(0), 0);
        e.is("1 hundredth of 100: 2", hundredBy(1, 1, 1, 2).warned(0), 1);
        e.is("then 1", hundredBy(1, 1, 1, 2, 1).warned(0), 1);
        e.is("then 0", hundredBy(1, 1, 1, 2, 0).warned(0), 0);
        e.is("1000 hundredths of 100: 1000", hundredBy(1000, 1000, 1, 1000).warned(0), 0);
        e.is("1000 hundredths of 100: 1001", hundredBy(1000, 1000, 1, 1001).warned(0), 1);
        e.is("then 1000", hundredBy(1000, 1000, 1, 1001, 1000).warned(0), 1);
        e.is("then 999", hundredBy(1000, 1000, 1, 1001, 999).warned(0), 0);
    }

    @Says(in = "Promise 25", words = "BAD: also b above a.")
    static void bAboveA(Edges e) {
        e.upTo("b of a 5", 5, BAD, b -> new WornRings().laws(5, b, 2));
        e.upTo("b of a 1", 1, BAD, b -> new WornRings().laws(1, b, 2));
        e.from("a of b 5", 5, BAD, a -> new WornRings().laws(a, 5, 2));
        e.is("a 1000, b 1001", new WornRings().laws(1000, 1001, 2), BAD);
        e.is("both 1001", new WornRings().laws(1001, 1001, 2), BAD);
        e.is("both 0", new WornRings().laws(0, 0, 2), BAD);
        e.is("both far below", new WornRings().laws(Integer.MIN_VALUE, Integer.MIN_VALUE, 2), BAD);
    }

    @Says(in = "Promise 25", words = "(They hold from the next READING on.)")
    static void lawsHoldFromTheNextReading(Edges e) {
        WornRings x = hundred(120, 120, 120);
        x.laws(110, 100, 3);
        e.is("not warned at once", x.warned(0), 0);
        x.reading(0, 111);
        e.is("from the next on, with those ahead of it", x.warned(0), 1);
        x.laws(1000, 1000, 1);
        e.is("still warned", x.warned(0), 1);
        x.reading(0, 999);
        e.is("not from the next on", x.warned(0), 0);
        x.repair();
        read(x, 0, 100, 100, 100, 100, 100, 999);
        e.is("laws stay behind a repair: 999", x.warned(0), 0);
        x.reading(0, 1001);
        e.is("laws stay behind a repair: 1001", x.warned(0), 1);
        e.is("for all LOADS", read(x, 3, 100, 100, 100, 100, 100, 1001).warned(3), 1);
    }

    // ---- Promise 26: reading, and its Terms

    @Says(in = "Promise 26", words = "A READING of a LOAD: how many since the repair.")
    static void readingAnswersHowMany(Edges e) {
        WornRings x = new WornRings();
        e.is("the first of 0", x.reading(0, 5), 1);
        e.is("the second of 0", x.reading(0, 5), 2);
        e.is("the first of 3", x.reading(3, 5), 1);
        e.is("the third of 0", x.reading(0, 5), 3);
        x.repair();
        e.is("the first of 0 since", x.reading(0, 5), 1);
        e.is("the first of 3 since", x.reading(3, 5), 1);
    }

    @Says(in = "Promise 26", words = "BAD")
    static void readingsThatAreBad(Edges e) {
        e.range("load", 0, 3, BAD, load -> new WornRings().reading(load, 0));
        e.range("v", 0, 1000000, BAD, v -> new WornRings().reading(0, v));
    }

    @Says(in = "Promise 26", words = "FULL: 200.")
    static void readingsAreFull(Edges e) {
        WornRings x = so(199, 2, 100);
        e.is("the 200th", x.reading(2, 100), 200);
        e.is("one more", x.reading(2, 100), FULL);
        e.is("and more", x.reading(2, 1000000), FULL);
        e.is("another LOAD has its own 200", x.reading(1, 100), 1);
        x.repair();
        e.is("room behind a repair", x.reading(2, 100), 1);
    }

    @Says(in = "Promise 26", words = "FULL: 200.")
    static void theLastReadingCounts(Edges e) {
        WornRings x = so(198, 0, 100);
        x.reading(0, 151);
        e.is("199", x.warned(0), 0);
        e.is("the 200th", x.reading(0, 151), 200);
        e.is("warns", x.warned(0), 1);
        e.is("one more", x.reading(0, 0), FULL);
        e.is("does not end it", x.warned(0), 1);
        x = so(199, 0, 100);
        x.reading(0, 151);
        x.reading(0, 151);
        e.is("nor does one more warn", x.warned(0), 0);
    }

    @Says(in = "Terms", words = "READINGS of a LOAD 0 .. 3, as they come, are numbers 0 .. 1000000.")
    static void readingsFromEndToEnd(Edges e) {
        e.is("the least", so(5, 0, 0).baseline(0), 0);
        e.is("the most", so(5, 3, 1000000).baseline(3), 1000000);
        WornRings x = new WornRings();
        for (int load = 0; load < 4; load++) {
            read(x, load, 10 + load, 10 + load, 10 + load, 10 + load, 10 + load);
        }
        e.are("each its own", x::baseline, 10, 11, 12, 13, BAD);
    }

    // ---- Promise 27: baseline, and its Terms

    @Says(in = "Promise 27", words = "The BASELINE.")
    static void theBaseline(Edges e) {
        e.is("the middle one", read(new WornRings(), 1, 9, 1, 7, 3, 5).baseline(1), 5);
        e.is("it stays", read(new WornRings(), 1, 9, 1, 7, 3, 5, 0, 0, 0, 0, 0).baseline(1), 5);
        e.is("of 200", so(200, 1, 7).baseline(1), 7);
    }

    @Says(in = "Promise 27", words = "BAD")
    static void baselineOfALoadThatIsNotThere(Edges e) {
        e.range("load", 0, 3, BAD, load -> so(5, load, 7).baseline(load));
    }

    @Says(in = "Promise 27", words = "NONE.")
    static void noBaseline(Edges e) {
        WornRings x = so(5, 1, 7);
        e.are("baseline of LOAD", x::baseline, NONE, 7, NONE, NONE, BAD);
        x.repair();
        e.are("behind a repair, of LOAD", x::baseline, NONE, NONE, NONE, NONE, BAD);
    }

    @Says(in = "Terms", words = "BASELINE of a LOAD: the middle one of its first 5 READINGS since the latest repair "
        + "(NONE ahead of the fifth).")
    static void middleOfTheFirstFive(Edges e) {
        for (int many = 0; many < 5; many++) {
            e.is("ahead of the fifth, " + many, so(many, 0, 7).baseline(0), NONE);
        }
        e.is("with the fifth", so(5, 0, 7).baseline(0), 7);
        int[] row = new int[5];
        for (int order = 0; order < 3125; order++) {
            int rest = order;
            for (int i = 0; i < 5; i++) {
                row[i] = rest % 5;
                rest /= 5;
            }
            int[] sorted = row.clone();
            java.util.Arrays.sort(sorted);
            e.is("the middle of " + java.util.Arrays.toString(row), read(new WornRings(), 0, row).baseline(0), sorted[2]);
        }
        WornRings x = read(new WornRings(), 0, 1, 2, 3, 4, 5, 0, 0, 0);
        e.is("not of the later ones", x.baseline(0), 3);
        x.repair();
        read(x, 0, 60, 70, 80, 90);
        e.is("behind a repair, ahead of the fifth", x.baseline(0), NONE);
        x.reading(0, 100);
        e.is("behind a repair, of the new ones alone", x.baseline(0), 80);
    }

    // ---- Promise 28: warned, and its Terms

    @Says(in = "Promise 28", words = "Whether a LOAD is WARNED: 1, 0.")
    static void warnedIsOneOrZero(Edges e) {
        e.is("0", hundred(151).warned(0), 0);
        e.is("1", hundred(151, 151).warned(0), 1);
        e.are("of its own LOAD alone", hundred(151, 151)::warned, 1, 0, 0, 0, BAD);
    }

    @Says(in = "Promise 28", words = "BAD.")
    static void warnedOfALoadThatIsNotThere(Edges e) {
        e.range("load", 0, 3, BAD, load -> new WornRings().warned(load));
    }

    @Says(in = "Terms", words = "A LOAD is WARNED: it is not at first, nor behind a repair")
    static void notWarnedAtFirst(Edges e) {
        e.are("at first", new WornRings()::warned, 0, 0, 0, 0, BAD);
        WornRings x = hundred(151, 151);
        x.repair();
        e.is("behind a repair", x.warned(0), 0);
        read(x, 0, 151, 151, 151, 151, 151);
        e.is("those of the past do not warn", x.warned(0), 0);
        read(x, 0, 226, 227);
        e.is("one above the new BASELINE", x.warned(0), 0);
        x.reading(0, 227);
        e.is("two above the new BASELINE", x.warned(0), 1);
    }

    @Says(in = "Terms", words = "behind each READING behind its fifth: warned, if there are u READINGS behind the fifth "
        + "(u 1 .. 4)")
    static void thereAreUReadings(Edges e) {
        for (int u = 1; u <= 4; u++) {
            // The first five are high too (all but the middle), but do not count among the u.
            WornRings x = new WornRings();
            x.laws(150, 120, u);
            read(x, 0, 1, 1, 100, 900, 900);
            e.is("not by the fifth, u " + u, x.warned(0), 0);
            for (int i = 1; i <= 4; i++) {
                x.reading(0, 900);
                e.is(i + " behind the fifth, u " + u, x.warned(0), i >= u ? 1 : 0);
            }
        }
        WornRings x = new WornRings();
        x.laws(1, 1, 1);
        for (int i = 0; i < 5; i++) {
            x.reading(0, 1000);
            e.is("not ahead of the sixth", x.warned(0), 0);
        }
    }

    @Says(in = "Terms", words = "and the latest u are all more than a hundredths of the BASELINE")
    static void latestAreAllMore(Edges e) {
        e.is("150, no more than 150", hundredBy(150, 120, 1, 150).warned(0), 0);
        e.is("151", hundredBy(150, 120, 1, 151).warned(0), 1);
        for (int low = 0; low < 4; low++) {
            int[] row = {151, 151, 151, 151};
            row[low] = 150;
            e.is("one of four is no more, " + low, hundredBy(150, 120, 4, row).warned(0), 0);
        }
        e.is("four of four", hundredBy(150, 120, 4, 151, 151, 151, 151).warned(0), 1);
        e.is("the latest four", hundredBy(150, 120, 4, 0, 151, 151, 151, 151).warned(0), 1);
        e.is("not four in a row", hundredBy(150, 120, 4, 151, 151, 151, 150, 151).warned(0), 0);
        e.is("the latest one of u 1", hundredBy(150, 120, 1, 0, 151).warned(0), 1);
        // 110 hundredths of 102 are 112.2: not cut down to 112, nor up to 113.
        WornRings x = so(5, 0, 102);
        x.laws(110, 100, 1);
        e.is("112 of 112.2", read(x, 0, 112).warned(0), 0);
        e.is("113 of 112.2", read(x, 0, 113).warned(0), 1);
        x = so(5, 0, 0);
        e.is("0 of a BASELINE of 0", read(x, 0, 0, 0).warned(0), 0);
        e.is("1 of a BASELINE of 0", read(x, 0, 1, 1).warned(0), 1);
        x = so(5, 0, 1000000);
        x.laws(100, 100, 1);
        e.is("the most of the most", read(x, 0, 1000000).warned(0), 0);
        x.laws(99, 99, 1);
        e.is("more than 99 hundredths of it", read(x, 0, 1000000).warned(0), 1);
        x.laws(1000, 1, 1);
        e.is("1000 hundredths of the most, as it was", read(x, 0, 1000000).warned(0), 1);
    }

    @Says(in = "Terms", words = "not any more, if the latest one is less than b hundredths (b not above a)")
    static void notAnyMore(Edges e) {
        e.is("120, not less than 120", hundred(151, 151, 120).warned(0), 1);
        e.is("119", hundred(151, 151, 119).warned(0), 0);
        e.is("0", hundred(151, 151, 0).warned(0), 0);
        e.is("the latest alone counts", hundred(151, 151, 119, 130).warned(0), 0);
        e.is("b as a: 150 is neither", hundredBy(150, 150, 1, 151, 150).warned(0), 1);
        e.is("b as a: 149", hundredBy(150, 150, 1, 151, 149).warned(0), 0);
        e.is("b as a: 150 is neither, either", hundredBy(150, 150, 1, 149, 150).warned(0), 0);
        // 101 hundredths of 102 are 103.02.
        WornRings x = so(5, 0, 102);
        x.laws(105, 101, 1);
        e.is("104 of 103.02", read(x, 0, 108, 104).warned(0), 1);
        e.is("103 of 103.02", read(x, 0, 103).warned(0), 0);
        x = so(5, 0, 0);
        e.is("nothing is less than 0", read(x, 0, 1, 1, 0).warned(0), 1);
        x = so(5, 0, 1000000);
        x.laws(99, 99, 1);
        read(x, 0, 1000000);
        x.laws(1000, 1000, 1);
        e.is("the most is less than 1000 hundredths of it", read(x, 0, 1000000).warned(0), 0);
    }

    @Says(in = "Terms", words = "else as it was.")
    static void elseAsItWas(Edges e) {
        e.is("between b and a, warned", hundred(151, 151, 120, 150, 135).warned(0), 1);
        e.is("between b and a, not warned", hundred(120, 150, 135).warned(0), 0);
        e.is("one above a, warned", hundred(151, 151, 130, 151).warned(0), 1);
        e.is("one above a, not warned", hundred(151, 130, 151).warned(0), 0);
        e.is("between, behind the end of it", hundred(151, 151, 119, 150, 130).warned(0), 0);
        e.is("another LOAD's READING", read(hundred(151, 151), 1, 0, 0, 0, 0, 0, 0).warned(0), 1);
    }

    // ---- Promise 29: repair

    @Says(in = "Promise 29", words = "A repair: all READINGS go, no LOAD is WARNED: how many LOADS were.")
    static void repairOfNoneAndAll(Edges e) {
        e.is("of a new object", new WornRings().repair(), 0);
        e.is("of READINGS that do not warn", hundred(151).repair(), 0);
        e.is("of one that was, but is no more", hundred(151, 151, 119).repair(), 0);
        for (int many = 0; many <= 4; many++) {
            WornRings x = new WornRings();
            for (int load = 0; load < 4; load++) {
                int high = load >= 4 - many ? 151 : 150;
                read(x, load, 100, 100, 100, 100, 100, high, high);
            }
            e.is(many + " of four", x.repair(), many);
            e.is("and then none", x.repair(), 0);
            e.are("not warned", x::warned, 0, 0, 0, 0, BAD);
            e.are("no BASELINE", x::baseline, NONE, NONE, NONE, NONE, BAD);
            e.are("from 1 again", load -> x.reading(load, 7), 1, 1, 1, 1, BAD);
        }
    }

    @Says(in = "Promise 29", words = "A repair: all READINGS go, no LOAD is WARNED: how many LOADS were.")
    static void repairLeavesTheRest(Edges e) {
        WornRings x = new WornRings();
        x.shaft(0, 9, 9);
        x.mark(5);
        x.sheet(0, 0, 3, 1);
        x.line(1, 1);
        x.slip(20);
        x.repair();
        e.is("PARTS", x.parts(), 3);
        e.is("MARKS", x.turns(), 1);
        e.is("SHEETS", x.drop(0), 3);
        e.is("LINES", x.unline(), 1);
        e.is("the slip", x.slip(0), 20);
    }
}
