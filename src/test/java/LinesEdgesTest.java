/** Promises 18 to 24 and the Terms of LINES, NAMED and THE HEAP: each sentence at its edges. */
public final class LinesEdgesTest {
    private static final int BAD = WornRings.BAD;

    public static void main(String[] args) throws IllegalAccessException {
        Edges.run(LinesEdgesTest.class);
    }

    /** LINES, as fractions one behind the other: above, below, above, below .. */
    private static WornRings see(WornRings x, int... fractions) {
        for (int i = 0; i + 1 < fractions.length; i += 2) {
            x.line(fractions[i], fractions[i + 1]);
        }
        return x;
    }

    private static WornRings seen(int... fractions) {
        return see(new WornRings(), fractions);
    }

    private static WornRings linesOf(int many) {
        WornRings x = new WornRings();
        for (int i = 0; i < many; i++) {
            x.line(1, 1);
        }
        return x;
    }

    /** TONES: outer 3, 6; inner 5, 10, 4; cage 3/8; balls 15/8, 15/4, beside SHAFT 0's 1, 2, 3. */
    private static WornRings withRing() {
        WornRings x = new WornRings();
        x.ring(0, 8, 1, 4);
        return x;
    }

    // ---- Promise 18: line, and its Terms

    @Says(in = "Promise 18", words = "A LINE: its number.")
    static void lineAnswersItsNumber(Edges e) {
        WornRings x = new WornRings();
        for (int i = 0; i < 12; i++) {
            e.is("the same again and again", x.line(5, 5), i);
        }
    }

    @Says(in = "Promise 18", words = "BAD")
    static void linesThatAreBad(Edges e) {
        e.range("above", 1, 10000, BAD, above -> new WornRings().line(above, 1));
        e.range("below", 1, 10000, BAD, below -> new WornRings().line(1, below));
        e.is("both 0", new WornRings().line(0, 0), BAD);
        e.is("both below 0", new WornRings().line(-1, -1), BAD);
    }

    @Says(in = "Promise 18", words = "FULL: 12.")
    static void linesAreFull(Edges e) {
        e.is("the twelfth", linesOf(11).line(1, 1), 11);
        e.is("a thirteenth", linesOf(12).line(1, 1), WornRings.FULL);
        WornRings x = linesOf(12);
        e.is("one more", x.line(2, 1), WornRings.FULL);
        e.is("is none of them", x.explains(0), 4095);
        e.is("unline()", x.unline(), 12);
        e.is("room again", x.line(1, 1), 0);
    }

    @Says(in = "Terms", words = "LINES 0 .. 11, as they come, are tones that were seen")
    static void linesAsTheyCome(Edges e) {
        WornRings x = new WornRings();
        for (int i = 0; i < 12; i++) {
            x.line(i == 0 || i == 11 ? 1 : 9, 1);
        }
        e.is("the first and the last", x.explains(0), 1 | 1 << 11);
        e.is("the others", x.strange(), 4095);
    }

    @Says(in = "Terms", words = "a fraction above by below (1 .. 10000 each)")
    static void fractions(Edges e) {
        e.is("both the most are 1", seen(10000, 10000).explains(0), 1);
        e.is("both the least are 1", seen(1, 1).explains(0), 1);
        WornRings x = new WornRings();
        x.shaft(0, 200, 5);
        x.shaft(1, 200, 8);
        x.shaft(0, 5, 200);
        // SPEEDS 1000 and 1/40; the GEARS of SHAFT 2 sound at 8000 and 16000.
        see(x, 10000, 10, 10000, 5, 10000, 1, 1, 40, 250, 10000, 1, 10000);
        x.slip(0);
        e.is("1000 and 2000", x.explains(2), 0b000011);
        e.is("one by forty, twice", x.explains(3), 0b011000);
        x.line(8000, 1);
        e.is("8000", x.explains(5), 0b1000000);
        e.is("10000 and its least are nobody's", seen(10000, 1, 1, 10000).explains(0), 0);
    }

    // ---- Promise 19: unline

    @Says(in = "Promise 19", words = "All LINES go: how many there were.")
    static void unlineOfNoneAndAll(Edges e) {
        e.is("none", new WornRings().unline(), 0);
        e.is("one", linesOf(1).unline(), 1);
        WornRings x = linesOf(12);
        x.line(2, 1);
        e.is("twelve", x.unline(), 12);
        e.is("then none", x.unline(), 0);
        e.is("explains nothing", x.explains(0), 0);
        e.is("nothing is strange", x.strange(), 0);
        e.heap(x);
        for (int i = 0; i < 12; i++) {
            e.is("room for", x.line(3, 1), i);
        }
        e.is("and no more", x.line(3, 1), WornRings.FULL);
        e.is("the slip stays", x.slip(0), 10);
    }

    // ---- Promise 20: slip

    @Says(in = "Promise 20", words = "The slip: what it was.")
    static void slipAnswersWhatItWas(Edges e) {
        WornRings x = new WornRings();
        e.is("at first", x.slip(100), 10);
        e.is("the most", x.slip(0), 100);
        e.is("the least", x.slip(0), 0);
        e.is("the same", x.slip(7), 0);
        x.unline();
        x.repair();
        e.is("behind unline and repair", x.slip(7), 7);
    }

    @Says(in = "Promise 20", words = "BAD.")
    static void slipsThatAreBad(Edges e) {
        e.range("e", 0, 100, BAD, slip -> new WornRings().slip(slip));
        WornRings x = new WornRings();
        x.slip(101);
        x.slip(-1);
        e.is("what is refused does not stay", x.slip(10), 10);
    }

    // ---- Promise 21: explains, and its Terms

    @Says(in = "Promise 21", words = "LINES that a PART EXPLAINS, as bits.")
    static void explainsAsBits(Edges e) {
        e.is("none", new WornRings().explains(0), 0);
        for (int i = 0; i < 12; i++) {
            WornRings x = new WornRings();
            for (int k = 0; k < 12; k++) {
                x.line(k == i ? 2 : 9, 1);
            }
            e.is("LINE " + i + " alone", x.explains(0), 1 << i);
        }
        e.is("all", linesOf(12).explains(0), 4095);
    }

    @Says(in = "Promise 21", words = "BAD.")
    static void explainsOfAPartThatIsNotThere(Edges e) {
        e.range("part of 1", 0, 0, BAD, part -> linesOf(1).explains(part));
        e.range("part of 5", 0, 4, BAD, part -> withRing().explains(part));
        e.range("part of 39", 0, 38, BAD, part -> fullMachine().explains(part));
    }

    @Says(in = "Terms", words = "A PART EXPLAINS a LINE by a slip of e thousandths (0 .. 100), if one of its TONES "
        + "is not further from it than e thousandths of that TONE.")
    static void slipAtItsEdges(Edges e) {
        for (int slip : new int[] {0, 1, 10, 99, 100}) {
            // TONE 1 of SHAFT 0: two LINES at the edge, two as little beyond as a LINE can tell.
            int above = 9 * (1000 + slip);
            int below = 10 * (1000 - slip);
            WornRings x = seen(above, 9000, above + 1, 9000, below, 10000, below - 1, 10000);
            x.slip(slip);
            e.is("at the edge and beyond, by " + slip, x.explains(0), 0b0101);
        }
        WornRings x = new WornRings();
        x.shaft(0, 10, 20);
        see(x, 5500, 10000, 5501, 10000, 4500, 10000, 4499, 10000);
        x.slip(100);
        e.is("100 thousandths of 1/2", x.explains(1), 0b0101);
        x.slip(99);
        e.is("99 thousandths of 1/2", x.explains(1), 0);
        x.unline();
        see(x, 5000, 10000, 5001, 10000, 4999, 10000);
        x.slip(0);
        e.is("no slip at all", x.explains(1), 0b001);
        x.slip(1);
        e.is("one thousandth", x.explains(1), 0b111);
    }

    @Says(in = "Terms", words = "A PART EXPLAINS a LINE by a slip of e thousandths (0 .. 100), if one of its TONES "
        + "is not further from it than e thousandths of that TONE.")
    static void slipOfTheToneNotOfTheLine(Edges e) {
        // 11/10 is 100 thousandths of 1 away, but less of itself; 10/11 is more than 90 of 1 away.
        WornRings x = seen(11, 10, 10, 11, 9, 10, 1000, 1111);
        x.slip(100);
        e.is("of the TONE", x.explains(0), 0b1111);
        x.slip(91);
        e.is("10/11 is 90.9 away", x.explains(0), 0b0010);
        x.slip(90);
        e.is("and no nearer", x.explains(0), 0);
        // 100 thousandths of 3: TONE 2 of SHAFT 0.
        x = seen(27, 10, 33, 10, 2699, 1000, 3301, 1000);
        x.slip(100);
        e.is("100 thousandths of 3", x.explains(0), 0b0011);
    }

    @Says(in = "Terms", words = "A PART EXPLAINS a LINE by a slip of e thousandths (0 .. 100), if one of its TONES "
        + "is not further from it than e thousandths of that TONE.")
    static void widestProducts(Edges e) {
        // Balls of 199 / 19800 of a SPEED of 199 * 197 * 193 / 8000000: some 0.00950 and 0.01901.
        WornRings x = new WornRings();
        x.shaft(0, 199, 200);
        x.shaft(1, 197, 200);
        x.shaft(2, 193, 200);
        x.ring(3, 29, 99, 100);
        see(x, 10000, 1, 1, 10000, 95, 10000, 190, 10000, 97, 10000);
        e.is("95 and 190 in ten thousand", x.explains(10), 0b01100);
        x.slip(0);
        e.is("none of them to the letter", x.explains(10), 0);
        x.slip(100);
        e.is("97 as well", x.explains(10), 0b11100);
        // Balls of 9999 / 200 of a SPEED of 64000: far above all LINES.
        x = new WornRings();
        x.shaft(0, 200, 5);
        x.shaft(1, 200, 5);
        x.shaft(2, 200, 5);
        x.ring(3, 30, 1, 100);
        see(x, 10000, 1, 1, 10000);
        x.slip(100);
        for (int part = 0; part < x.parts(); part++) {
            e.is("PART " + part + " is far off", x.explains(part), 0);
        }
    }

    // ---- Promise 22: named, and its Terms

    @Says(in = "Promise 22", words = "Whether a PART can be NAMED: 1, 0.")
    static void namedIsOneOrZero(Edges e) {
        e.is("without LINES", new WornRings().named(0), 0);
        e.is("two of three TONES", seen(1, 1, 2, 1).named(0), 0);
        e.is("three of three", seen(1, 1, 2, 1, 3, 1).named(0), 1);
        WornRings x = seen(1, 1, 2, 1, 3, 1);
        x.unline();
        e.is("behind unline", x.named(0), 0);
    }

    @Says(in = "Promise 22", words = "BAD.")
    static void namedOfAPartThatIsNotThere(Edges e) {
        e.range("part of 1", 0, 0, BAD, part -> new WornRings().named(part));
        e.range("part of 5", 0, 4, BAD, part -> withRing().named(part));
        e.range("part of 39", 0, 38, BAD, part -> fullMachine().named(part));
    }

    @Says(in = "Terms", words = "NAMED can be a PART that EXPLAINS some LINE and of whose TONES each is that of some LINE "
        + "(so near).")
    static void eachToneIsSeen(Edges e) {
        int[][] tones = {{1, 1, 2, 1, 3, 1}, {3, 1, 6, 1}, {5, 1, 10, 1, 4, 1}, {3, 8}, {15, 8, 15, 4}};
        for (int part = 0; part < tones.length; part++) {
            e.is("all TONES of PART " + part, see(withRing(), tones[part]).named(part), 1);
            for (int spared = 0; spared < tones[part].length; spared += 2) {
                WornRings x = withRing();
                for (int i = 0; i < tones[part].length; i += 2) {
                    x.line(i == spared ? 9999 : tones[part][i], i == spared ? 1 : tones[part][i + 1]);
                }
                e.is("but TONE " + spared / 2 + " of PART " + part, x.named(part), 0);
            }
        }
    }

    @Says(in = "Terms", words = "NAMED can be a PART that EXPLAINS some LINE and of whose TONES each is that of some LINE "
        + "(so near).")
    static void soNear(Edges e) {
        WornRings x = seen(101, 100, 202, 100, 297, 100);
        e.is("each at the edge of 10", x.named(0), 1);
        x.slip(9);
        e.is("each beyond 9", x.named(0), 0);
        x = seen(101, 100, 202, 100, 2969, 1000);
        e.is("one beyond 10", x.named(0), 0);
        // One LINE is that of two TONES: inner 597/20 and 577/20 are both near 293/10.
        x = new WornRings();
        x.ring(0, 30, 99, 100);
        see(x, 293, 10, 597, 10);
        x.slip(20);
        e.is("two LINES for three TONES", x.named(2), 1);
        x.slip(15);
        e.is("nearer than that", x.named(2), 0);
    }

    // ---- Promise 23: heap, and its Terms

    @Says(in = "Promise 23", words = "THE HEAP: PART i of it, the least first; i = -1: how many.")
    static void heapFromTheLeast(Edges e) {
        e.is("how many of none", new WornRings().heap(-1), 0);
        e.is("none of none", new WornRings().heap(0), BAD);
        WornRings x = see(withRing(), 3, 8, 6, 1, 3, 1, 1, 1, 2, 1);
        e.is("how many", x.heap(-1), 3);
        e.are("PART", x::heap, 0, 1, 3, BAD);
    }

    @Says(in = "Promise 23", words = "BAD.")
    static void heapThatIsNotThere(Edges e) {
        e.range("i of 0", -1, -1, BAD, i -> new WornRings().heap(i));
        e.range("i of 1", -1, 0, BAD, i -> seen(1, 1, 2, 1, 3, 1).heap(i));
        e.range("i of 2", -1, 1, BAD, i -> see(withRing(), 3, 1, 6, 1, 3, 8).heap(i));
    }

    /** All 39 PARTS: four SHAFTS of SPEED 1 with GEARS of 10 teeth, eight RINGS with cages (99 - 10 i) / 200. */
    private static WornRings fullMachine() {
        WornRings x = new WornRings();
        for (int i = 0; i < 3; i++) {
            x.shaft(0, 10, 10);
        }
        for (int i = 0; i < 8; i++) {
            x.ring(0, 5, 10 * i + 1, 100);
        }
        return x;
    }

    @Says(in = "Terms", words = "THE HEAP are the fewest PARTS that can be NAMED which EXPLAIN together all LINES "
        + "that any of such EXPLAINS")
    static void heapOfTheFewest(Edges e) {
        // SHAFT 0 EXPLAINS 1 and 2, but can't be NAMED without 3: nobody need EXPLAIN them.
        e.heap(see(withRing(), 1, 1, 2, 1, 3, 8), 3);
        // One that EXPLAINS both stands for two that EXPLAIN one each, though they come first.
        WornRings x = new WornRings();
        x.ring(0, 5, 3, 4);
        x.ring(0, 5, 1, 2);
        x.ring(0, 3, 11, 12);
        see(x, 1, 8, 1, 4);
        e.is("the first cage can be NAMED", x.named(3), 1);
        e.is("the second cage can be NAMED", x.named(7), 1);
        e.heap(x, 9);
        // One that can be NAMED but is not needed: SHAFT 0 beside an inner 3/2, 3, 1 and an outer 2, 4.
        x = new WornRings();
        x.shaft(0, 10, 20);
        x.ring(1, 4, 1, 2);
        x.ring(0, 8, 1, 2);
        see(x, 1, 1, 2, 1, 3, 1, 3, 2, 4, 1);
        e.is("SHAFT 0 can be NAMED", x.named(0), 1);
        e.heap(x, 4, 7);
    }

    @Says(in = "Terms", words = "THE HEAP are the fewest PARTS that can be NAMED which EXPLAIN together all LINES "
        + "that any of such EXPLAINS")
    static void heapOfTwelveLines(Edges e) {
        // Eight cages and the outer TONES of the first two RINGS, 99/40 and 89/40 and twice those.
        WornRings x = fullMachine();
        x.slip(0);
        for (int i = 0; i < 8; i++) {
            x.line(99 - 10 * i, 200);
        }
        see(x, 99, 40, 99, 20, 89, 40, 89, 20);
        e.heap(x, 7, 9, 11, 13, 17, 21, 25, 29, 33, 37);
        e.is("nothing is strange", x.strange(), 0);
        // The last PART of all, 38: balls of 4959 / 14200 and twice that, the first of them nearly.
        x = see(fullMachine(), 3492, 10000, 4959, 7100);
        e.is("PART 38 can be NAMED", x.named(38), 1);
        e.heap(x, 38);
        // All twelve LINES are the same one: a single PART.
        x = fullMachine();
        for (int i = 0; i < 12; i++) {
            x.line(99, 200);
        }
        e.heap(x, 9);
    }

    @Says(in = "Terms", words = "THE HEAP are the fewest PARTS that can be NAMED which EXPLAIN together all LINES "
        + "that any of such EXPLAINS")
    static void heapOfAllPartsNamed(Edges e) {
        WornRings x = new WornRings();
        for (int i = 0; i < 3; i++) {
            x.shaft(0, 10, 10);
        }
        for (int i = 0; i < 8; i++) {
            x.ring(i % 4, 8, 1, 4);
        }
        see(x, 1, 1, 2, 1, 3, 1, 6, 1, 5, 1, 10, 1, 4, 1, 3, 8, 15, 8, 15, 4, 20, 1);
        for (int part = 0; part < 39; part++) {
            e.is("PART " + part, x.named(part), 1);
        }
        e.heap(x, 0, 4, 7, 8, 9, 10);
        e.is("nothing is strange", x.strange(), 0);
    }

    @Says(in = "Terms", words = "of as few the first by the least PART, then the next, ..")
    static void heapOfTheFirst(Edges e) {
        // Four SHAFTS of one SPEED, then three GEARS of one: the least of each.
        WornRings x = see(fullMachine(), 1, 1, 2, 1, 3, 1);
        e.heap(x, 0);
        see(x, 10, 1, 20, 1);
        e.heap(x, 0, 4);
        // The same RING twice: the first one's cage and balls.
        x = withRing();
        x.ring(0, 8, 1, 4);
        see(x, 3, 8, 15, 8, 15, 4);
        e.heap(x, 3, 4);
        // The cage 1/8 EXPLAINS less than the outer 1/8, 1/4, but beside the outer 1/4, 1/2 it is enough.
        x = new WornRings();
        x.ring(0, 5, 3, 4);
        x.ring(0, 3, 11, 12);
        x.ring(0, 3, 5, 6);
        see(x, 1, 8, 1, 4, 1, 2);
        e.is("the outer 1/8, 1/4 can be NAMED", x.named(5), 1);
        e.heap(x, 3, 9);
    }

    @Says(in = "Terms", words = "of as few the first by the least PART, then the next, ..")
    static void heapOfTheFirstThenTheNext(Edges e) {
        // Outer TONES 1/16, 1/8 and 1/8, 1/4 and 1/4, 1/2: the first and the last RING are enough,
        // wherever the one between them comes.
        int[][] orders = {{0, 1, 2}, {1, 0, 2}, {2, 1, 0}, {1, 2, 0}};
        int[][] due = {{1, 9}, {5, 9}, {1, 9}, {5, 9}};
        for (int i = 0; i < orders.length; i++) {
            WornRings x = new WornRings();
            for (int ring : orders[i]) {
                x.ring(0, 3, new int[] {23, 11, 5}[ring], new int[] {24, 12, 6}[ring]);
            }
            see(x, 1, 16, 1, 8, 1, 4, 1, 2);
            e.heap(x, due[i]);
        }
        // Behind 1, 2, 3 of SHAFT 0 the next: outer 3, 6 ahead of the second RING's outer 3, 6.
        WornRings x = withRing();
        x.ring(0, 8, 1, 4);
        see(x, 1, 1, 2, 1, 3, 1, 6, 1);
        e.heap(x, 0, 1);
    }

    @Says(in = "Terms", words = "THE HEAP are the fewest PARTS that can be NAMED which EXPLAIN together all LINES "
        + "that any of such EXPLAINS")
    static void heapAsThingsChange(Edges e) {
        WornRings x = seen(1, 1, 2, 1, 3, 1, 6, 1);
        e.heap(x, 0);
        x.ring(0, 8, 1, 4);
        e.heap(x, 0, 1);
        x.shaft(0, 6, 60);
        e.heap(x, 0, 3);
        x.line(12, 1);
        e.heap(x, 0, 2);
        x.unline();
        e.heap(x);
        see(x, 101, 100, 2, 1, 3, 1);
        e.heap(x, 0);
        x.slip(9);
        e.heap(x);
        x.slip(10);
        e.heap(x, 0);
    }

    @Says(in = "Terms", words = "THE HEAP are the fewest PARTS that can be NAMED which EXPLAIN together all LINES "
        + "that any of such EXPLAINS")
    static void heapByTheFirstOfEach(Edges e) {
        WornRings x = new WornRings();
        e.heap(x);
        e.is("nothing is strange", x.strange(), 0);
        x.line(3, 8);
        e.heap(x);
        e.is("the first LINE is strange", x.strange(), 1);
        x.ring(0, 8, 1, 4);
        e.heap(x, 3);
        e.is("until the first RING", x.strange(), 0);
        x.unline();
        e.heap(x);
        x.line(3, 8);
        e.heap(x, 3);
        x.unline();
        see(x, 10, 1, 20, 1);
        e.heap(x);
        x.shaft(0, 10, 10);
        e.heap(x, 2);
    }

    // ---- Promise 24: strange

    @Says(in = "Promise 24", words = "LINES that no PART that can be NAMED EXPLAINS, as bits.")
    static void strangeAsBits(Edges e) {
        e.is("of no LINES", new WornRings().strange(), 0);
        e.is("explained, but by none that can be NAMED", seen(1, 1, 2, 1).strange(), 0b11);
        e.is("none", seen(1, 1, 2, 1, 3, 1).strange(), 0);
        e.is("the last", seen(1, 1, 2, 1, 3, 1, 4, 1).strange(), 0b1000);
        e.is("the first", seen(4, 1, 1, 1, 2, 1, 3, 1).strange(), 0b0001);
        WornRings x = new WornRings();
        for (int i = 0; i < 12; i++) {
            x.line(5000 + i, 1);
        }
        e.is("all twelve", x.strange(), 4095);
        e.is("none of twelve", see(seen(1, 1, 2, 1, 3, 1), 1, 1, 2, 1, 3, 1, 1, 1, 2, 1, 3, 1, 1, 1, 2, 1, 3, 1).strange(), 0);
        // Spared by THE HEAP, but not strange: what any that can be NAMED EXPLAINS.
        e.is("of two SHAFTS alike", see(fullMachine(), 1, 1, 2, 1, 3, 1).strange(), 0);
    }
}
