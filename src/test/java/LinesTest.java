/** Promises 18 to 24: LINES, the slip, what EXPLAINS them, who can be NAMED, THE HEAP. */
public final class LinesTest {
    private static final Due DUE = new Due();

    public static void main(String[] args) {
        lines();
        unline();
        slips();
        edgesOfTheSlip();
        explained();
        named();
        heapOfTheFewest();
        heapOfTheFirst();
        heapSparesTheLeast();
        heapOfOneForTwo();
        heapOfTheLesser();
        heapOfAFullMachine();
        heapAsThingsChange();
        strange();
        wideFractions();
        refusals();
        DUE.end();
    }

    private static WornRings seen(int... fractions) {
        WornRings x = new WornRings();
        see(x, fractions);
        return x;
    }

    private static void see(WornRings x, int... fractions) {
        for (int i = 0; i + 1 < fractions.length; i += 2) {
            x.line(fractions[i], fractions[i + 1]);
        }
    }

    private static void heapIs(WornRings x, int... due) {
        DUE.is("heap(-1)", x.heap(-1), due.length);
        for (int i = 0; i < due.length; i++) {
            DUE.is("heap(" + i + ")", x.heap(i), due[i]);
        }
        DUE.is("heap behind the last", x.heap(due.length), WornRings.BAD);
    }

    private static void lines() {
        WornRings x = new WornRings();
        DUE.is("above 0", x.line(0, 1), WornRings.BAD);
        DUE.is("below 0", x.line(1, 0), WornRings.BAD);
        DUE.is("above 10001", x.line(10001, 1), WornRings.BAD);
        DUE.is("below 10001", x.line(1, 10001), WornRings.BAD);
        DUE.is("far below", x.line(Integer.MIN_VALUE, -1), WornRings.BAD);
        DUE.is("the widest", x.line(10000, 1), 0);
        DUE.is("the least", x.line(1, 10000), 1);
        for (int i = 2; i < 12; i++) {
            DUE.is("line " + i, x.line(i, 1), i);
        }
        DUE.is("a thirteenth", x.line(1, 1), WornRings.FULL);
        DUE.is("BAD is named ahead of FULL", x.line(0, 1), WornRings.BAD);
    }

    private static void unline() {
        WornRings x = seen(1, 1, 2, 1, 3, 1);
        DUE.is("named", x.named(0), 1);
        DUE.is("three go", x.unline(), 3);
        DUE.is("none go", x.unline(), 0);
        DUE.is("nothing explained", x.explains(0), 0);
        DUE.is("not named", x.named(0), 0);
        heapIs(x);
        DUE.is("from 0 again", x.line(4, 2), 0);
        DUE.is("only the new one", x.explains(0), 1);
    }

    private static void slips() {
        WornRings x = new WornRings();
        DUE.is("10 at first", x.slip(0), 10);
        DUE.is("then 0", x.slip(100), 0);
        DUE.is("101", x.slip(101), WornRings.BAD);
        DUE.is("-1", x.slip(-1), WornRings.BAD);
        DUE.is("still 100", x.slip(5), 100);
        DUE.is("then 5", x.slip(5), 5);
    }

    private static void edgesOfTheSlip() {
        WornRings x = seen(101, 100, 102, 100, 99, 100, 98, 100, 1011, 1000, 989, 1000);
        DUE.is("10 thousandths of the TONE", x.explains(0), 0b000101);
        x.slip(11);
        DUE.is("11 thousandths", x.explains(0), 0b110101);
        x.slip(0);
        DUE.is("none at all", x.explains(0), 0);
        x.line(7, 7);
        DUE.is("but the TONE itself", x.explains(0), 0b1000000);
        // 3 less 300 thousandths: of the TONE, not of the LINE.
        x = seen(27, 10, 33, 10, 2699, 1000, 3301, 1000);
        x.slip(100);
        DUE.is("100 thousandths of 3", x.explains(0), 0b0011);
    }

    private static void explained() {
        WornRings x = new WornRings();
        x.shaft(0, 20, 30);
        x.ring(1, 9, 3, 8);
        see(x, 2, 3, 40, 1, 15, 8, 83, 24, 5, 24, 55, 36, 2, 1, 9999, 1);
        int[] due = {0b01000000, 0b01000001, 0b00000010, 0b00000100, 0b00001000, 0b00010000, 0b00100000};
        for (int i = 0; i < due.length; i++) {
            DUE.is("explains(" + i + ")", x.explains(i), due[i]);
        }
        DUE.is("a LINE of 12 bits", seen(9, 1, 9, 1, 9, 1, 9, 1, 9, 1, 9, 1, 9, 1, 9, 1, 9, 1, 9, 1, 9, 1, 1, 1).explains(0), 2048);
    }

    private static void named() {
        WornRings x = seen(1, 1, 2, 1);
        DUE.is("explains two", x.explains(0), 3);
        DUE.is("but one TONE is not seen", x.named(0), 0);
        x.line(302, 100);
        DUE.is("near enough", x.named(0), 1);
        x.slip(5);
        DUE.is("not near enough", x.named(0), 0);
        x.ring(0, 8, 1, 4);
        DUE.is("no LINE of the cage", x.named(3), 0);
        x.line(3, 8);
        DUE.is("the cage has one TONE", x.named(3), 1);
    }

    private static void heapOfTheFewest() {
        // Outer 3, 6; inner 5, 10, 4; cage 3/8; balls 15/8, 15/4 beside 1, 2, 3.
        WornRings x = new WornRings();
        x.ring(0, 8, 1, 4);
        see(x, 1, 1, 2, 1, 3, 1, 6, 1);
        heapIs(x, 0, 1);
        see(x, 5, 1, 10, 1);
        heapIs(x, 0, 1);
        DUE.is("5 and 10 are strange", x.strange(), 0b110000);
        x.line(4, 1);
        heapIs(x, 0, 1, 2);
        DUE.is("nothing is strange", x.strange(), 0);
        // The SHAFT is not NAMED, so its TONES are nobody's.
        x = new WornRings();
        x.ring(0, 8, 1, 4);
        see(x, 3, 8, 188, 100, 15, 4);
        heapIs(x, 3, 4);
    }

    private static void heapOfTheFirst() {
        // SHAFTS of the same SPEED have the same TONES: the least is taken.
        WornRings x = new WornRings();
        x.shaft(0, 10, 10);
        x.shaft(0, 10, 10);
        see(x, 1, 1, 2, 1, 3, 1);
        heapIs(x, 0);
        see(x, 10, 1, 20, 1);
        heapIs(x, 0, 3);
        // SHAFT 0 needs 1, 2, 3 and SHAFT 1 needs 2, 4, 6: the GEARS' 10, 20 stand for themselves.
        x = new WornRings();
        x.shaft(0, 20, 10);
        see(x, 1, 1, 2, 1, 3, 1, 4, 1, 6, 1, 20, 1, 40, 1);
        heapIs(x, 0, 1, 2);
        // SHAFT 1 (1/2) explains 1/2, 1, 3/2; SHAFT 2 (1/3) 1/3, 2/3, 1: of 0, 1, 2 none is spared by another.
        x = new WornRings();
        x.shaft(0, 10, 20);
        x.shaft(0, 10, 30);
        see(x, 1, 1, 2, 1, 3, 1, 1, 2, 3, 2, 1, 3, 2, 3);
        heapIs(x, 0, 1, 2);
    }

    private static void heapSparesTheLeast() {
        // SHAFT 0 explains 1, 2, 3, but an inner 3/2, 3, 1 and an outer 2, 4 are needed and leave it nothing.
        WornRings x = new WornRings();
        x.shaft(0, 10, 20);
        x.ring(1, 4, 1, 2);
        x.ring(0, 8, 1, 2);
        see(x, 1, 1, 2, 1, 3, 1, 3, 2, 4, 1);
        DUE.is("SHAFT 0 can be NAMED", x.named(0), 1);
        heapIs(x, 4, 7);
    }

    private static void heapOfOneForTwo() {
        // Cages 1/8 and 1/4 come first, but one outer explains both.
        WornRings x = new WornRings();
        x.ring(0, 5, 3, 4);
        x.ring(0, 5, 1, 2);
        x.ring(0, 3, 11, 12);
        see(x, 1, 8, 1, 4);
        DUE.is("a cage can be NAMED", x.named(3), 1);
        DUE.is("the other too", x.named(7), 1);
        heapIs(x, 9);
        see(x, 1, 1, 2, 1, 3, 1);
        heapIs(x, 0, 9);
    }

    private static void heapOfTheLesser() {
        // The cage 1/8 explains less than the outer 1/8, 1/4, but 1/2 takes the outer 1/4, 1/2 along.
        WornRings x = new WornRings();
        x.ring(0, 5, 3, 4);
        x.ring(0, 3, 11, 12);
        x.ring(0, 3, 5, 6);
        see(x, 1, 8, 1, 4, 1, 2);
        heapIs(x, 3, 9);
    }

    private static void heapOfAFullMachine() {
        WornRings x = new WornRings();
        for (int i = 0; i < 3; i++) {
            x.shaft(0, 10, 10);
        }
        for (int i = 0; i < 8; i++) {
            x.ring(0, 5, 10 * i + 1, 100);
        }
        DUE.is("all PARTS", x.parts(), 39);
        // The cages are (99 - 10 i) / 200, the last balls 4959 / 14200 and twice that.
        x.slip(0);
        for (int i = 0; i < 8; i++) {
            x.line(99 - 10 * i, 200);
        }
        heapIs(x, 9, 13, 17, 21, 25, 29, 33, 37);
        x.unline();
        see(x, 29, 200, 4959, 7100);
        heapIs(x, 37);
        x.slip(1);
        DUE.is("one TONE of the balls", x.explains(38), 2);
        x.line(3492, 10000);
        DUE.is("and the other one", x.named(38), 1);
        heapIs(x, 37, 38);
    }

    private static void heapAsThingsChange() {
        WornRings x = seen(1, 1, 2, 1, 3, 1, 6, 1);
        heapIs(x, 0);
        DUE.is("6 is strange", x.strange(), 8);
        x.ring(0, 8, 1, 4);
        heapIs(x, 0, 1);
        DUE.is("the RING tells it", x.strange(), 0);
        x.shaft(0, 6, 60);
        heapIs(x, 0, 3);
        x.line(12, 1);
        heapIs(x, 0, 2);
        x.unline();
        heapIs(x);
        see(x, 101, 100, 2, 1, 3, 1);
        heapIs(x, 0);
        x.slip(9);
        heapIs(x);
        DUE.is("all are strange", x.strange(), 7);
        x.slip(10);
        heapIs(x, 0);
    }

    private static void strange() {
        DUE.is("one that is explained by none that can be NAMED", seen(1, 1).strange(), 1);
        DUE.is("two", seen(1, 1, 2, 1).strange(), 3);
        DUE.is("none of three", seen(1, 1, 2, 1, 3, 1).strange(), 0);
        DUE.is("the fourth", seen(1, 1, 2, 1, 3, 1, 7, 2).strange(), 8);
        WornRings x = new WornRings();
        for (int i = 0; i < 12; i++) {
            x.line(5000 + i, 1);
        }
        DUE.is("all twelve", x.strange(), 4095);
    }

    private static void wideFractions() {
        WornRings x = new WornRings();
        x.shaft(0, 199, 200);
        x.shaft(1, 199, 200);
        x.shaft(2, 199, 200);
        x.ring(3, 29, 98, 99);
        x.ring(3, 30, 99, 100);
        // Balls of the second: some 0.00990 and 0.01980 of 0.985 and the like.
        see(x, 9904, 10000, 10000, 1, 1, 10000, 99, 10000);
        x.slip(100);
        DUE.is("SHAFT 3 near 1", x.explains(3), 1);
        DUE.is("the balls near 0.0099", x.explains(14), 8);
        DUE.is("not named", x.named(14), 0);
        x.line(198, 10000);
        DUE.is("named", x.named(14), 1);
        x = new WornRings();
        x.shaft(0, 200, 7);
        x.shaft(1, 200, 7);
        x.shaft(2, 200, 7);
        x.ring(3, 30, 99, 100);
        see(x, 10000, 1, 10000, 9999);
        x.slip(100);
        DUE.is("the inner TONES are far above", x.explains(8), 0);
        DUE.is("a SHAFT's as well", x.explains(3), 0);
    }

    private static void refusals() {
        WornRings x = seen(1, 1, 2, 1, 3, 1);
        DUE.is("explains(-1)", x.explains(-1), WornRings.BAD);
        DUE.is("explains(1)", x.explains(1), WornRings.BAD);
        DUE.is("named(-1)", x.named(-1), WornRings.BAD);
        DUE.is("named(1)", x.named(1), WornRings.BAD);
        DUE.is("heap(-2)", x.heap(-2), WornRings.BAD);
        DUE.is("heap(1)", x.heap(1), WornRings.BAD);
        DUE.is("heap far above", x.heap(Integer.MAX_VALUE), WornRings.BAD);
        DUE.is("heap far below", x.heap(Integer.MIN_VALUE), WornRings.BAD);
        DUE.is("heap(0) of none", new WornRings().heap(0), WornRings.BAD);
    }
}
