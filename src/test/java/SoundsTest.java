/** Promises 12 to 17: SHEETS, items, what is CUT, THE MEAN and STRENGTH. */
public final class SoundsTest {
    private static final Due DUE = new Due();
    private static final int[] WAVE = {
        1000, 981, 924, 831, 707, 556, 383, 195, 0, -195, -383, -556, -707, -831, -924, -981,
        -1000, -981, -924, -831, -707, -556, -383, -195, 0, 195, 383, 556, 707, 831, 924, 981};

    public static void main(String[] args) {
        sheets();
        drops();
        items();
        lowestBits();
        fourSheets();
        cutRefusals();
        heardLongEnough();
        straightLines();
        turnsOfAllLengths();
        meansCutDown();
        meanStays();
        meanRefusals();
        strengths();
        strengthOfTheLargest();
        DUE.end();
    }

    private static void sheets() {
        WornRings x = new WornRings();
        DUE.is("no items", x.sheet(0, 0, 0, 1), 0);
        DUE.is("200 items", x.sheet(3, 2, 200, 1000), 200);
        DUE.is("201 items", x.sheet(0, 0, 201, 1), WornRings.BAD);
        DUE.is("-1 items", x.sheet(0, 0, -1, 1), WornRings.SIZE);
        DUE.is("far fewer", x.sheet(0, 0, Integer.MIN_VALUE, 1), WornRings.SIZE);
        DUE.is("sheet 4", x.sheet(4, 0, 1, 1), WornRings.BAD);
        DUE.is("sheet -1", x.sheet(-1, 0, 1, 1), WornRings.BAD);
        DUE.is("lane 3", x.sheet(0, 3, 1, 1), WornRings.BAD);
        DUE.is("lane -1", x.sheet(0, -1, 1, 1), WornRings.BAD);
        DUE.is("step 0", x.sheet(0, 0, 1, 0), WornRings.BAD);
        DUE.is("step 1001", x.sheet(0, 0, 1, 1001), WornRings.BAD);
        DUE.is("BAD ahead of SIZE", x.sheet(0, 0, -1, 0), WornRings.BAD);
        DUE.is("BAD lane ahead of SIZE", x.sheet(0, 3, -1, 1), WornRings.BAD);
        DUE.is("what is refused changes nothing", x.drop(3), 200);
        DUE.is("nor there", x.drop(0), 0);
    }

    private static void drops() {
        WornRings x = new WornRings();
        DUE.is("nothing yet", x.drop(1), WornRings.NULL);
        x.sheet(1, 1, 7, 3);
        DUE.is("seven", x.drop(1), 7);
        DUE.is("gone", x.drop(1), WornRings.NULL);
        DUE.is("gone for items", x.item(1, 1, 0, 1), WornRings.NULL);
        DUE.is("gone for cuts", x.cut(1, 0, 1), WornRings.NULL);
        DUE.is("sheet 4", x.drop(4), WornRings.BAD);
        DUE.is("sheet -1", x.drop(-1), WornRings.BAD);
    }

    private static void items() {
        WornRings x = new WornRings();
        DUE.is("NULL", x.item(2, 0, 0, 1), WornRings.NULL);
        DUE.is("NULL ahead of INDEX", x.item(2, 0, -1, 1), WornRings.NULL);
        x.sheet(2, 1, 3, 1);
        DUE.is("the first", x.item(2, 1, 0, 30000), 1);
        DUE.is("the last", x.item(2, 1, 2, -30000), 1);
        DUE.is("behind the last", x.item(2, 1, 3, 0), WornRings.INDEX);
        DUE.is("ahead of the first", x.item(2, 1, -1, 0), WornRings.INDEX);
        DUE.is("far behind", x.item(2, 1, Integer.MAX_VALUE, 0), WornRings.INDEX);
        DUE.is("as bytes", x.item(2, 0, 0, 0), WornRings.CAST);
        DUE.is("as ints", x.item(2, 2, 0, 0), WornRings.CAST);
        DUE.is("CAST ahead of INDEX", x.item(2, 2, 3, 0), WornRings.CAST);
        DUE.is("lane 3", x.item(2, 3, 0, 0), WornRings.BAD);
        DUE.is("lane -1", x.item(2, -1, 0, 0), WornRings.BAD);
        DUE.is("sheet 4", x.item(4, 1, 0, 0), WornRings.BAD);
        DUE.is("sheet -1", x.item(-1, 1, 0, 0), WornRings.BAD);
        DUE.is("v 30001", x.item(2, 1, 0, 30001), WornRings.BAD);
        DUE.is("v -30001", x.item(2, 1, 0, -30001), WornRings.BAD);
        DUE.is("BAD ahead of NULL", x.item(0, 1, 0, 30001), WornRings.BAD);
        x.sheet(1, 0, 0, 1);
        DUE.is("a row without items", x.item(1, 0, 0, 0), WornRings.INDEX);
    }

    /** One turn of 32 times, heard to its end: THE MEAN is the row itself, but for item 32. */
    private static WornRings oneTurn(int lane) {
        WornRings x = new WornRings();
        x.mark(0);
        x.mark(32);
        x.sheet(0, lane, 33, 1);
        return x;
    }

    private static void lowestBits() {
        int[] given = {0, 127, 128, 200, 255, 256, -128, -129, 30000, -30000};
        for (int lane = 0; lane < 3; lane++) {
            WornRings x = oneTurn(lane);
            for (int i = 0; i < given.length; i++) {
                x.item(0, lane, i, given[i]);
            }
            DUE.is("cut", x.cut(0, 0, 1), 1);
            for (int i = 0; i < given.length; i++) {
                int due = lane == 0 ? (byte) given[i] : given[i];
                DUE.is("lane " + lane + " of " + given[i], x.mean(i), due);
            }
        }
        WornRings x = oneTurn(2);
        x.item(0, 2, 5, 77);
        x.sheet(0, 2, 33, 1);
        x.cut(0, 0, 1);
        DUE.is("a new row begins with zeros", x.mean(5), 0);
    }

    private static void fourSheets() {
        WornRings x = oneTurn(0);
        for (int i = 0; i < 4; i++) {
            x.sheet(i, i % 3, 33, 1);
            DUE.is("item of sheet " + i, x.item(i, i % 3, 0, 10 + i), 1);
        }
        for (int i = 0; i < 4; i++) {
            DUE.is("cut of sheet " + i, x.cut(i, 0, 1), 1);
            DUE.is("its own first item", x.mean(0), 10 + i);
        }
        x.sheet(3, 0, 33, 1);
        x.cut(3, 0, 1);
        DUE.is("a new row's first item", x.mean(0), 0);
    }

    private static void cutRefusals() {
        WornRings x = new WornRings();
        DUE.is("NULL ahead of NOT", x.cut(0, 0, 1), WornRings.NULL);
        x.sheet(0, 0, 200, 1000);
        DUE.is("no TURNS", x.cut(0, 0, 1), WornRings.NOT);
        x.mark(0);
        DUE.is("one MARK is no TURN", x.cut(0, 0, 1), WornRings.NOT);
        for (int i = 1; i < 60; i++) {
            x.mark(10 * i);
        }
        DUE.is("c 0", x.cut(0, 0, 0), WornRings.BAD);
        DUE.is("c 41", x.cut(0, 0, 41), WornRings.BAD);
        DUE.is("c 40", x.cut(0, 0, 40), 40);
        DUE.is("the last 40 of 59", x.cut(0, 19, 40), 40);
        DUE.is("one more", x.cut(0, 20, 40), WornRings.NOT);
        DUE.is("the last", x.cut(0, 58, 1), 1);
        DUE.is("behind the last", x.cut(0, 59, 1), WornRings.NOT);
        DUE.is("far behind", x.cut(0, Integer.MAX_VALUE, 40), WornRings.NOT);
        DUE.is("t -1", x.cut(0, -1, 1), WornRings.BAD);
        DUE.is("far ahead", x.cut(0, Integer.MIN_VALUE, 40), WornRings.BAD);
        DUE.is("sheet 4", x.cut(4, 0, 1), WornRings.BAD);
        DUE.is("sheet -1", x.cut(-1, 0, 1), WornRings.BAD);
        DUE.is("BAD ahead of NULL", x.cut(1, 0, 41), WornRings.BAD);
    }

    private static void heardLongEnough() {
        WornRings x = oneTurn(0);
        DUE.is("heard to 32, the TURN's end", x.cut(0, 0, 1), 1);
        x.sheet(0, 0, 32, 1);
        DUE.is("heard to 31", x.cut(0, 0, 1), WornRings.NOT);
        x.sheet(0, 0, 2, 32);
        DUE.is("two items, 32 apart", x.cut(0, 0, 1), 1);
        x.sheet(0, 0, 2, 31);
        DUE.is("two items, 31 apart", x.cut(0, 0, 1), WornRings.NOT);
        x.sheet(0, 0, 1, 1000);
        DUE.is("one item", x.cut(0, 0, 1), WornRings.NOT);
        x.sheet(0, 0, 0, 1000);
        DUE.is("no item", x.cut(0, 0, 1), WornRings.NOT);
        x.unmark();
        x.mark(0);
        x.mark(1);
        DUE.is("no item for a TURN of 1 either", x.cut(0, 0, 1), WornRings.NOT);
        x.sheet(0, 0, 1, 1);
        DUE.is("one item, at time 0 alone", x.cut(0, 0, 1), WornRings.NOT);
        x.sheet(0, 0, 2, 1);
        DUE.is("two items", x.cut(0, 0, 1), 1);
    }

    private static void straightLines() {
        WornRings x = new WornRings();
        x.mark(0);
        x.mark(32);
        x.sheet(0, 2, 9, 4);
        x.item(0, 2, 0, -10);
        x.item(0, 2, 1, -3);
        x.item(0, 2, 2, -10);
        x.item(0, 2, 3, 30000);
        x.item(0, 2, 4, -30000);
        x.cut(0, 0, 1);
        int[] due = {-10, -9, -7, -5, -3, -5, -7, -9, -10, 7492, 14995, 22497, 30000, 15000, 0, -15000, -30000, -22500};
        for (int j = 0; j < due.length; j++) {
            DUE.is("on a straight line, mean(" + j + ")", x.mean(j), due[j]);
        }
    }

    private static void turnsOfAllLengths() {
        WornRings x = new WornRings();
        x.mark(3);
        x.mark(10);
        x.mark(110);
        x.sheet(0, 2, 200, 1);
        for (int i = 0; i < 200; i++) {
            x.item(0, 2, i, 3 * i);
        }
        DUE.is("the short one", x.cut(0, 0, 1), 1);
        for (int j = 0; j < 32; j++) {
            DUE.is("short, mean(" + j + ")", x.mean(j), 3 * (3 + 7 * j / 32));
        }
        DUE.is("MENDED ones", x.cut(0, 14, 1), 1);
        int begin = x.turn(14);
        for (int j = 0; j < 32; j++) {
            DUE.is("mended, mean(" + j + ")", x.mean(j), 3 * (begin + (x.turn(15) - begin) * j / 32));
        }
    }

    private static void meansCutDown() {
        WornRings x = new WornRings();
        x.mark(0);
        x.mark(32);
        x.mark(64);
        x.mark(96);
        x.sheet(0, 1, 97, 1);
        x.item(0, 1, 0, 1);
        x.item(0, 1, 1, -1);
        x.item(0, 1, 2, 5);
        x.item(0, 1, 34, -7);
        x.item(0, 1, 66, 3);
        x.item(0, 1, 3, -30000);
        x.item(0, 1, 35, -30000);
        x.item(0, 1, 67, -30000);
        DUE.is("cut(0, 0, 3)", x.cut(0, 0, 3), 3);
        DUE.is("1 by 3", x.mean(0), 0);
        DUE.is("-1 by 3", x.mean(1), -1);
        DUE.is("1 by 3 of all", x.mean(2), 0);
        DUE.is("-90000 by 3", x.mean(3), -30000);
        DUE.is("cut(0, 1, 2)", x.cut(0, 1, 2), 2);
        DUE.is("-4 by 2", x.mean(2), -2);
    }

    private static void meanStays() {
        WornRings x = oneTurn(1);
        x.item(0, 1, 4, 44);
        x.cut(0, 0, 1);
        x.item(0, 1, 4, 55);
        DUE.is("behind another item", x.mean(4), 44);
        DUE.is("a cut that is refused", x.cut(0, 1, 1), WornRings.NOT);
        DUE.is("changes nothing", x.mean(4), 44);
        x.unmark();
        x.drop(0);
        DUE.is("behind unmark and drop", x.mean(4), 44);
        DUE.is("its STRENGTH too", x.strength(0), 44 * 44);
    }

    private static void meanRefusals() {
        WornRings x = oneTurn(1);
        DUE.is("nothing was CUT", x.mean(0), -1000002);
        DUE.is("BAD ahead of NOT", x.mean(32), -1000001);
        DUE.is("STRENGTH of nothing", x.strength(16), WornRings.NOT);
        DUE.is("BAD ahead of NOT", x.strength(17), WornRings.BAD);
        x.cut(0, 0, 1);
        DUE.is("mean(-1)", x.mean(-1), -1000001);
        DUE.is("mean(32)", x.mean(32), -1000001);
        DUE.is("mean(31)", x.mean(31), 0);
        DUE.is("strength(-1)", x.strength(-1), WornRings.BAD);
        DUE.is("strength(17)", x.strength(17), WornRings.BAD);
        DUE.is("strength(16)", x.strength(16), 0);
    }

    private static void strengths() {
        WornRings x = oneTurn(2);
        int[] m = new int[32];
        for (int j = 0; j < 32; j++) {
            m[j] = (j * j * 37 + j * 911) % 2003 - 1000;
            x.item(0, 2, j, m[j]);
        }
        x.cut(0, 0, 1);
        for (int k = 0; k <= 16; k++) {
            long along = 0;
            long across = 0;
            for (int j = 0; j < 32; j++) {
                along += (long) m[j] * WAVE[k * j % 32];
                across += (long) m[j] * WAVE[(k * j + 24) % 32];
            }
            DUE.is("strength(" + k + ")", x.strength(k), (along * along + across * across) / 1000000);
        }
        x = oneTurn(2);
        x.item(0, 2, 1, 1);
        x.cut(0, 0, 1);
        DUE.is("924 and 383, cut down", x.strength(2), 1);
        DUE.is("831 and 556, cut down", x.strength(3), 0);
    }

    private static void strengthOfTheLargest() {
        WornRings x = oneTurn(1);
        for (int j = 0; j < 32; j++) {
            x.item(0, 1, j, -30000);
        }
        x.cut(0, 0, 1);
        DUE.is("all of it at order 0", x.strength(0), 960000L * 960000L);
        DUE.is("none at order 1", x.strength(1), 0);
    }
}
