/** Promises 12 to 17 and the Terms of SHEETS, CUT, THE MEAN and STRENGTH: each sentence at its edges. */
public final class SoundsEdgesTest {
    private static final int BAD = WornRings.BAD;
    private static final int NOT = WornRings.NOT;
    private static final int NULL = WornRings.NULL;
    private static final int CAST = WornRings.CAST;
    private static final int INDEX = WornRings.INDEX;
    private static final int SIZE = WornRings.SIZE;
    private static final int[] WAVE = {
        1000, 981, 924, 831, 707, 556, 383, 195, 0, -195, -383, -556, -707, -831, -924, -981,
        -1000, -981, -924, -831, -707, -556, -383, -195, 0, 195, 383, 556, 707, 831, 924, 981};

    public static void main(String[] args) throws IllegalAccessException {
        Edges.run(SoundsEdgesTest.class);
    }

    private static WornRings marked(int... times) {
        WornRings x = new WornRings();
        for (int time : times) {
            x.mark(time);
        }
        return x;
    }

    private static WornRings withSheet(int lane, int n, int step) {
        WornRings x = new WornRings();
        x.sheet(0, lane, n, step);
        return x;
    }

    /** One TURN of 32 times and a SHEET by step 1 to its end: THE MEAN is the row but for item 32, once it is CUT. */
    private static WornRings oneTurn(int lane, int... items) {
        WornRings x = marked(0, 32);
        x.sheet(0, lane, 33, 1);
        for (int i = 0; i < items.length; i++) {
            x.item(0, lane, i, items[i]);
        }
        return x;
    }

    private static WornRings oneTurnCut(int lane, int... items) {
        WornRings x = oneTurn(lane, items);
        x.cut(0, 0, 1);
        return x;
    }

    /** The value of a SHEET at a time, by a TURN of length 1 that begins there: NOT at the last item's time already. */
    private static long valueAt(WornRings x, int sheet, int time) {
        x.unmark();
        x.mark(time);
        x.mark(time + 1);
        int answer = x.cut(sheet, 0, 1);
        return answer == 1 ? x.mean(0) : answer;
    }

    // ---- Promise 12: sheet, and its Terms

    @Says(in = "Promise 12", words = "A SHEET holds a new row of a LANE, heard by steps (1 .. 1000): n.")
    static void steps(Edges e) {
        e.range("step", 1, 1000, BAD, step -> new WornRings().sheet(0, 0, 1, step));
        e.is("step 0 of no items", new WornRings().sheet(0, 0, 0, 0), BAD);
        WornRings x = withSheet(2, 200, 1000);
        e.is("heard to the end", valueAt(x, 0, 198999), 0);
        e.is("not beyond", valueAt(x, 0, 199000), NOT);
    }

    @Says(in = "Promise 12", words = "A SHEET holds a new row of a LANE, heard by steps (1 .. 1000): n.")
    static void newRowInPlaceOfAnother(Edges e) {
        WornRings x = withSheet(0, 200, 10);
        x.item(0, 0, 0, 7);
        x.item(0, 0, 3, 7);
        e.is("a row of ints", x.sheet(0, 2, 3, 2), 3);
        e.is("no bytes any more", x.item(0, 0, 0, 1), CAST);
        e.is("no item 3 any more", x.item(0, 2, 3, 1), INDEX);
        e.is("all items 0", valueAt(x, 0, 0), 0);
        e.is("its own step", valueAt(x, 0, 3), 0);
        e.is("not heard beyond", valueAt(x, 0, 4), NOT);
        e.is("a row of none", x.sheet(0, 2, 0, 2), 0);
        e.is("no item 0 any more", x.item(0, 2, 0, 1), INDEX);
        e.is("a long row again", x.sheet(0, 2, 200, 1), 200);
        e.is("item 3 is new too", valueAt(x, 0, 3), 0);
    }

    @Says(in = "Promise 12", words = "BAD: also n above 200")
    static void tooManyItems(Edges e) {
        e.upTo("n", 200, BAD, n -> new WornRings().sheet(0, 0, n, 1));
        e.range("sheet", 0, 3, BAD, sheet -> new WornRings().sheet(sheet, 0, 1, 1));
        for (int lane = 0; lane < 3; lane++) {
            e.is("200 of LANE " + lane, new WornRings().sheet(0, lane, 200, 1), 200);
            e.is("201 of LANE " + lane, new WornRings().sheet(0, lane, 201, 1), BAD);
        }
    }

    @Says(in = "Promise 12", words = "SIZE: n below 0.")
    static void tooFewItems(Edges e) {
        e.from("n", 0, SIZE, n -> new WornRings().sheet(0, 0, n, 1));
        for (int lane = 0; lane < 3; lane++) {
            e.is("-1 of LANE " + lane, new WornRings().sheet(3, lane, -1, 1000), SIZE);
        }
    }

    @Says(in = "Terms", words = "SHEETS 0 .. 3 hold nothing (at first), or a row of a LANE")
    static void sheetsHoldNothingOrARow(Edges e) {
        WornRings x = new WornRings();
        e.are("at first, drop", x::drop, NULL, NULL, NULL, NULL, BAD);
        x.sheet(2, 1, 0, 1);
        e.are("a row of none is a row, drop", x::drop, NULL, NULL, 0, NULL, BAD);
        e.are("and then nothing, drop", x::drop, NULL, NULL, NULL, NULL, BAD);
        for (int sheet = 0; sheet < 4; sheet++) {
            x.sheet(sheet, sheet % 3, 10 + sheet, 1);
            x.item(sheet, sheet % 3, 0, 100 + sheet);
        }
        for (int sheet = 0; sheet < 4; sheet++) {
            e.is("each its own", valueAt(x, sheet, 0), 100 + sheet);
        }
        e.are("each its own, drop", x::drop, 10, 11, 12, 13, BAD);
    }

    @Says(in = "Terms", words = "0 bytes, 1 shorts, 2 ints")
    static void lanes(Edges e) {
        e.range("lane", 0, 2, BAD, lane -> new WornRings().sheet(0, lane, 1, 1));
        e.is("a byte of 128", oneTurnCut(0, 128).mean(0), -128);
        e.is("a short of 128", oneTurnCut(1, 128).mean(0), 128);
        e.is("an int of 128", oneTurnCut(2, 128).mean(0), 128);
    }

    @Says(in = "Terms", words = "of 0 to 200 items (0 at first)")
    static void itemsFromNoneTo200(Edges e) {
        e.is("none", new WornRings().sheet(0, 1, 0, 1), 0);
        e.is("200", new WornRings().sheet(0, 1, 200, 1), 200);
        e.is("no first of none", withSheet(1, 0, 1).item(0, 1, 0, 5), INDEX);
        e.is("the last of 200", withSheet(1, 200, 1).item(0, 1, 199, 5), 1);
        // The last one is told by the time halfway to it.
        WornRings x = withSheet(1, 200, 2);
        e.is("the first at first", valueAt(x, 0, 0), 0);
        e.is("the last at first", valueAt(x, 0, 397), 0);
        x.item(0, 1, 199, 10);
        e.is("the last then", valueAt(x, 0, 397), 5);
        x.drop(0);
        x.sheet(0, 1, 200, 2);
        e.is("of a new row behind drop", valueAt(x, 0, 397), 0);
    }

    // ---- Promise 13: drop

    @Says(in = "Promise 13", words = "A SHEET holds nothing: how many items it had.")
    static void dropAnswersHowMany(Edges e) {
        e.is("0 items", withSheet(0, 0, 1).drop(0), 0);
        e.is("1 item", withSheet(1, 1, 1).drop(0), 1);
        e.is("200 items", withSheet(2, 200, 1).drop(0), 200);
        WornRings x = withSheet(2, 200, 1);
        x.sheet(0, 2, 3, 1);
        e.is("of the newer row", x.drop(0), 3);
        e.is("it holds nothing", x.item(0, 2, 0, 1), NULL);
    }

    @Says(in = "Promise 13", words = "BAD")
    static void dropOfASheetThatIsNotThere(Edges e) {
        e.range("sheet", 0, 3, BAD, sheet -> {
            WornRings x = new WornRings();
            x.sheet(sheet, 0, 1, 1);
            return x.drop(sheet);
        });
    }

    @Says(in = "Promise 13", words = "NULL.")
    static void dropOfNothing(Edges e) {
        WornRings x = withSheet(0, 0, 1);
        e.is("another SHEET", x.drop(1), NULL);
        e.is("a row of none", x.drop(0), 0);
        e.is("again", x.drop(0), NULL);
        x.sheet(0, 0, 0, 1);
        e.is("a new row of none", x.drop(0), 0);
    }

    // ---- Promise 14: item

    @Says(in = "Promise 14", words = "Item i of a SHEET, taken as a row of a LANE, becomes v (-30000 .. 30000), "
        + "its lowest bits: 1.")
    static void itemsValues(Edges e) {
        for (int i = 0; i < 3; i++) {
            int lane = i;
            e.range("v of LANE " + i, -30000, 30000, BAD, v -> withSheet(lane, 1, 1).item(0, lane, 0, v));
        }
        e.are("bytes", j -> oneTurnCut(0, 127, 128, 255, 256, 257, -128, -129, -256, -257, 30000, -30000).mean(j),
            127, -128, -1, 0, 1, -128, 127, 0, -1, 48, -48);
        e.are("shorts", j -> oneTurnCut(1, 127, 128, 255, 256, -128, -129, -256, 30000, -30000).mean(j),
            127, 128, 255, 256, -128, -129, -256, 30000, -30000);
        e.are("ints", j -> oneTurnCut(2, 127, 128, 255, 256, -128, -129, -256, 30000, -30000).mean(j),
            127, 128, 255, 256, -128, -129, -256, 30000, -30000);
        WornRings x = oneTurn(1, 5);
        e.is("another value", x.item(0, 1, 0, 6), 1);
        e.is("the latest counts", valueAt(x, 0, 0), 6);
    }

    @Says(in = "Promise 14", words = "BAD")
    static void itemOfASheetThatIsNotThere(Edges e) {
        e.range("sheet", 0, 3, BAD, sheet -> {
            WornRings x = new WornRings();
            x.sheet(sheet, 0, 1, 1);
            return x.item(sheet, 0, 0, 0);
        });
        e.from("lane", 0, BAD, lane -> withSheet(0, 1, 1).item(0, lane, 0, 0));
        e.upTo("lane", 2, BAD, lane -> withSheet(2, 1, 1).item(0, lane, 0, 0));
    }

    @Says(in = "Promise 14", words = "NULL")
    static void itemOfNothing(Edges e) {
        WornRings x = new WornRings();
        x.sheet(1, 0, 1, 1);
        e.are("item of SHEET", sheet -> x.item(sheet, 0, 0, 0), NULL, 1, NULL, NULL, BAD);
        x.drop(1);
        e.is("of what was dropped", x.item(1, 0, 0, 0), NULL);
    }

    @Says(in = "Promise 14", words = "CAST")
    static void itemOfAnotherLane(Edges e) {
        for (int held = 0; held < 3; held++) {
            for (int taken = 0; taken < 3; taken++) {
                e.is("LANE " + held + " taken as " + taken, withSheet(held, 1, 1).item(0, taken, 0, 0),
                    held == taken ? 1 : CAST);
                e.is("a row of none, too", withSheet(held, 0, 1).item(0, taken, 0, 0), held == taken ? INDEX : CAST);
            }
        }
    }

    @Says(in = "Promise 14", words = "INDEX.")
    static void itemThatIsNotThere(Edges e) {
        for (int i = 0; i < 3; i++) {
            int lane = i;
            e.range("i of 1", 0, 0, INDEX, at -> withSheet(lane, 1, 1).item(0, lane, at, 0));
            e.range("i of 200", 0, 199, INDEX, at -> withSheet(lane, 200, 1).item(0, lane, at, 0));
            e.is("0 of none", withSheet(lane, 0, 1).item(0, lane, 0, 0), INDEX);
            e.is("-1 of none", withSheet(lane, 0, 1).item(0, lane, -1, 0), INDEX);
        }
    }

    // ---- Terms: what is heard

    @Says(in = "Terms", words = "heard at times 0, step, 2 step ..")
    static void heardByItsSteps(Edges e) {
        for (int step : new int[] {1, 7, 1000}) {
            WornRings x = withSheet(2, 5, step);
            for (int i = 0; i < 4; i++) {
                x.item(0, 2, i, 10 + i);
            }
            for (int i = 0; i < 4; i++) {
                e.is("item " + i + " by " + step, valueAt(x, 0, i * step), 10 + i);
            }
        }
    }

    @Says(in = "Terms", words = "at a time between two items on a straight line, cut down")
    static void onAStraightLine(Edges e) {
        WornRings x = withSheet(2, 6, 1000);
        int[] items = {-30000, 30000, 0, 1, 0, -1};
        for (int i = 0; i < items.length; i++) {
            x.item(0, 2, i, items[i]);
        }
        e.is("one behind the first", valueAt(x, 0, 1), -29940);
        e.is("halfway", valueAt(x, 0, 500), 0);
        e.is("one ahead of the second", valueAt(x, 0, 999), 29940);
        e.is("one behind it", valueAt(x, 0, 1001), 29970);
        e.is("up from 0 to 1, first", valueAt(x, 0, 2001), 0);
        e.is("up from 0 to 1, last", valueAt(x, 0, 2999), 0);
        e.is("down from 1 to 0", valueAt(x, 0, 3001), 0);
        e.is("down from 0 to -1, first", valueAt(x, 0, 4001), -1);
        e.is("down from 0 to -1, last", valueAt(x, 0, 4999), -1);
        x = withSheet(2, 2, 2);
        x.item(0, 2, 0, -90);
        x.item(0, 2, 1, -83);
        e.is("-86 and a half", valueAt(x, 0, 1), -87);
        x.item(0, 2, 0, 83);
        x.item(0, 2, 1, 90);
        e.is("86 and a half", valueAt(x, 0, 1), 86);
        x.item(0, 2, 0, 90);
        x.item(0, 2, 1, 83);
        e.is("86 and a half, falling", valueAt(x, 0, 1), 86);
    }

    @Says(in = "Terms", words = "none beyond the last one")
    static void noneBeyondTheLast(Edges e) {
        e.is("none of no items", valueAt(withSheet(0, 0, 1000), 0, 0), NOT);
        e.is("behind the only one", valueAt(withSheet(0, 1, 1000), 0, 0), NOT);
        e.is("ahead of the last of two", valueAt(withSheet(0, 2, 9), 0, 8), 0);
        e.is("behind the last of two", valueAt(withSheet(0, 2, 9), 0, 9), NOT);
        e.is("ahead of the last of 200", valueAt(withSheet(0, 200, 1), 0, 198), 0);
        e.is("behind the last of 200", valueAt(withSheet(0, 200, 1), 0, 199), NOT);
        e.is("far behind", valueAt(withSheet(0, 200, 1000), 0, 999999), NOT);
    }

    // ---- Promise 15: cut, and its Terms

    @Says(in = "Promise 15", words = "TURNS of a SHEET are CUT, THE MEAN is told from then on: c.")
    static void cutTellsTheMeanFromThenOn(Edges e) {
        WornRings x = oneTurn(1, 44);
        e.is("not yet", x.mean(0), -1000002);
        e.is("cut", x.cut(0, 0, 1), 1);
        e.is("from then on", x.mean(0), 44);
        x.item(0, 1, 0, 55);
        e.is("behind another item", x.mean(0), 44);
        x.unmark();
        x.drop(0);
        e.is("behind unmark and drop", x.mean(0), 44);
        e.is("STRENGTH too", x.strength(0), 44 * 44);
        x.mark(0);
        x.mark(1);
        x.sheet(3, 0, 2, 1);
        e.is("the next cut", x.cut(3, 0, 1), 1);
        e.is("takes its place", x.mean(0), 0);
    }

    @Says(in = "Promise 15", words = "BAD: c 1 .. 40")
    static void cutsOf1To40(Edges e) {
        WornRings x = new WornRings();
        for (int i = 0; i < 60; i++) {
            x.mark(2 * i);
        }
        x.sheet(0, 0, 200, 1);
        e.range("c", 1, 40, BAD, c -> x.cut(0, 0, c));
        e.is("c 0", x.cut(0, 5, 0), BAD);
        e.from("t", 0, BAD, t -> x.cut(0, t, 1));
        e.is("t -1, c 2", x.cut(0, -1, 2), BAD);
        e.range("sheet", 0, 3, BAD, sheet -> {
            WornRings y = marked(0, 1);
            y.sheet(sheet, 0, 2, 1);
            return y.cut(sheet, 0, 1);
        });
    }

    @Says(in = "Promise 15", words = "NULL")
    static void cutOfNothing(Edges e) {
        WornRings x = marked(0, 1);
        x.sheet(1, 0, 2, 1);
        e.are("cut of SHEET", sheet -> x.cut(sheet, 0, 1), NULL, 1, NULL, NULL, BAD);
        x.drop(1);
        e.is("of what was dropped", x.cut(1, 0, 1), NULL);
    }

    @Says(in = "Promise 15", words = "NOT: there are not so many TURNS")
    static void notSoManyTurns(Edges e) {
        WornRings x = new WornRings();
        for (int i = 0; i < 60; i++) {
            e.is("of " + i + " MARKS", heardLong(x).cut(0, Math.max(0, i - 1), 1), NOT);
            x.mark(2 * i);
        }
        e.upTo("t, one of 59", 58, NOT, t -> x.cut(0, t, 1));
        e.upTo("t, 40 of 59", 19, NOT, t -> x.cut(0, t, 40));
        WornRings few = heardLong(marked(0, 2, 4, 6));
        e.is("3 of 3", few.cut(0, 0, 3), 3);
        e.is("4 of 3", few.cut(0, 0, 4), NOT);
        e.is("40 of 3", few.cut(0, 0, 40), NOT);
        e.is("2 of 3 from 1", few.cut(0, 1, 2), 2);
        e.is("3 of 3 from 1", few.cut(0, 1, 3), NOT);
        e.is("t and c wrap around", few.cut(0, Integer.MAX_VALUE - 38, 40), NOT);
    }

    private static WornRings heardLong(WornRings x) {
        x.sheet(0, 0, 200, 1);
        return x;
    }

    @Says(in = "Promise 15", words = "or the SHEET is not heard so long.")
    static void notHeardSoLong(Edges e) {
        WornRings x = marked(0, 32, 64);
        x.sheet(0, 0, 33, 1);
        e.is("heard to 32, the first TURN's end", x.cut(0, 0, 1), 1);
        e.is("not in the second TURN", x.cut(0, 1, 1), NOT);
        e.is("nor to the end of both", x.cut(0, 0, 2), NOT);
        x.sheet(0, 0, 32, 1);
        e.is("heard to 31, at all values, not to the end", x.cut(0, 0, 1), NOT);
        x.sheet(0, 0, 65, 1);
        e.is("heard to 64", x.cut(0, 0, 2), 2);
        x.sheet(0, 0, 64, 1);
        e.is("heard to 63", x.cut(0, 0, 2), NOT);
        e.is("the first TURN is", x.cut(0, 0, 1), 1);
        x.sheet(0, 0, 2, 64);
        e.is("two items, 64 apart", x.cut(0, 1, 1), 1);
        x.sheet(0, 0, 2, 63);
        e.is("two items, 63 apart", x.cut(0, 1, 1), NOT);
        x.sheet(0, 0, 0, 1);
        e.is("no items", x.cut(0, 0, 1), NOT);
        x.sheet(0, 0, 1, 1);
        e.is("one item", x.cut(0, 0, 1), NOT);
    }

    @Says(in = "Promise 15", words = "or the SHEET is not heard so long.")
    static void heardToTheEndOfEveryTurn(Edges e) {
        // Beginning, end, and how many items by step 1 it takes to be heard to that end.
        int[][] turns = {{0, 1, 2}, {0, 2, 3}, {7, 8, 9}, {5, 70, 71}, {0, 198, 199}, {198, 199, 200}};
        for (int[] turn : turns) {
            WornRings x = marked(turn[0], turn[1]);
            x.sheet(1, 2, turn[2], 1);
            e.is("to " + turn[1] + ", " + turn[2] + " items", x.cut(1, 0, 1), 1);
            x.sheet(1, 2, turn[2] - 1, 1);
            e.is("to " + turn[1] + ", an item less", x.cut(1, 0, 1), NOT);
        }
        WornRings mended = marked(0, 10, 20, 50);
        mended.sheet(0, 0, 4, 10);
        e.is("to 30, a MENDED end", mended.cut(0, 0, 3), 3);
        e.is("to 40", mended.cut(0, 0, 4), NOT);
        mended.sheet(0, 0, 2, 29);
        e.is("to 29", mended.cut(0, 2, 1), NOT);
    }

    @Says(in = "Terms", words = "CUT are TURNS t to t + c - 1 of a SHEET")
    static void cutFromTOn(Edges e) {
        WornRings x = marked(0, 32, 64, 96);
        x.sheet(0, 2, 97, 1);
        for (int turn = 0; turn < 3; turn++) {
            x.item(0, 2, 32 * turn, 60 * (turn + 1) * (turn + 1));
        }
        int[][] due = {{0, 1, 60}, {1, 1, 240}, {2, 1, 540}, {0, 2, 150}, {1, 2, 390}, {0, 3, 280}};
        for (int[] row : due) {
            e.is("c", x.cut(0, row[0], row[1]), row[1]);
            e.is("TURNS " + row[0] + " and on, " + row[1], x.mean(0), row[2]);
        }
    }

    @Says(in = "Terms", words = "of each TURN 32 values, the j-th at its beginning and the TURN's length times j by 32 "
        + "(cut down).")
    static void valuesOfATurn(Edges e) {
        for (int length : new int[] {1, 2, 31, 32, 33, 63, 64, 96}) {
            WornRings x = marked(3, 3 + length);
            x.sheet(0, 2, 200, 1);
            for (int i = 0; i < 200; i++) {
                x.item(0, 2, i, 5 * i);
            }
            e.is("cut", x.cut(0, 0, 1), 1);
            for (int j = 0; j < 32; j++) {
                e.is("value " + j + " of " + length, x.mean(j), 5 * (3 + length * j / 32));
            }
        }
    }

    @Says(in = "Terms", words = "of each TURN 32 values, the j-th at its beginning and the TURN's length times j by 32 "
        + "(cut down).")
    static void valuesOfTheLongestTurn(Edges e) {
        // Heard to 199000; the last of the 32 values is at 192781.
        WornRings x = marked(0, 199000);
        x.sheet(0, 2, 200, 1000);
        x.item(0, 2, 192, -1000);
        x.item(0, 2, 193, 1000);
        e.is("cut", x.cut(0, 0, 1), 1);
        e.is("the last value", x.mean(31), 562);
        x = marked(0, 199001);
        x.sheet(0, 2, 200, 1000);
        e.is("cut, beyond", x.cut(0, 0, 1), NOT);
        x = marked(0, 1000000);
        x.sheet(0, 2, 200, 1000);
        e.is("cut of the longest of all", x.cut(0, 0, 1), NOT);
    }

    @Says(in = "Terms", words = "THE MEAN is 32 values: of each j all c values together by c, cut down.")
    static void meansCutDown(Edges e) {
        WornRings x = marked(0, 32, 64, 96);
        x.sheet(0, 2, 97, 1);
        int[][] items = {{1, 0, 0}, {2, 0, 0}, {3, 0, 0}, {-1, 0, 0}, {-2, 0, 0}, {-3, 0, 0}, {-4, 0, 0}, {5, -7, 3},
            {-30000, -30000, -30000}, {30000, 30000, 30000}, {30000, 30000, 29999}, {-30000, -30000, -29999}};
        for (int j = 0; j < items.length; j++) {
            for (int turn = 0; turn < 3; turn++) {
                x.item(0, 2, 32 * turn + j, items[j][turn]);
            }
        }
        x.cut(0, 0, 3);
        e.are("mean", x::mean, 0, 0, 1, -1, -1, -1, -2, 0, -30000, 30000, 29999, -30000);
    }

    @Says(in = "Terms", words = "THE MEAN is 32 values: of each j all c values together by c, cut down.")
    static void meanOfFortyTurns(Edges e) {
        WornRings x = new WornRings();
        for (int i = 0; i < 41; i++) {
            x.mark(2 * i);
        }
        x.sheet(0, 2, 200, 1);
        for (int i = 0; i < 80; i++) {
            x.item(0, 2, i, i < 79 ? -30000 : -29999);
        }
        e.is("cut", x.cut(0, 0, 40), 40);
        e.is("the first half of each TURN", x.mean(0), -30000);
        e.is("the second half, a little more", x.mean(31), -30000);
        x.item(0, 2, 79, 30000);
        x.cut(0, 0, 40);
        e.is("60000 by 40 more", x.mean(31), -28500);
    }

    // ---- Promise 16: mean

    @Says(in = "Promise 16", words = "THE MEAN at j (0 .. 31).")
    static void meanAtItsEnds(Edges e) {
        WornRings x = oneTurn(2, 7);
        x.item(0, 2, 31, 9);
        x.cut(0, 0, 1);
        e.is("mean(0)", x.mean(0), 7);
        e.is("mean(30)", x.mean(30), 0);
        e.is("mean(31)", x.mean(31), 9);
        e.range("j", 0, 31, -1000001, x::mean);
    }

    @Says(in = "Promise 16", words = "BAD less 1000000 (-1000001)")
    static void meanOfABadJ(Edges e) {
        WornRings x = oneTurnCut(2, -1, -2);
        e.is("mean(-1)", x.mean(-1), -1000001);
        e.is("mean(32)", x.mean(32), -1000001);
        e.is("a MEAN of -1 is none", x.mean(0), -1);
        e.is("nor is one of -2", x.mean(1), -2);
    }

    @Says(in = "Promise 16", words = "NOT less that (-1000002): nothing was CUT.")
    static void meanOfNothing(Edges e) {
        WornRings x = oneTurn(2);
        e.is("mean(0)", x.mean(0), -1000002);
        e.is("mean(31)", x.mean(31), -1000002);
        e.is("a cut that is refused", x.cut(0, 1, 1), NOT);
        e.is("tells none", x.mean(0), -1000002);
        e.is("nor one that is BAD", x.cut(0, 0, 41), BAD);
        e.is("tells none", x.mean(0), -1000002);
        e.is("nor one of nothing", x.cut(1, 0, 1), NULL);
        e.is("tells none", x.mean(0), -1000002);
    }

    // ---- Promise 17: strength, and its Terms

    @Says(in = "Promise 17", words = "STRENGTH at an order.")
    static void strengthAtItsEnds(Edges e) {
        WornRings level = oneTurnCut(2, all(1));
        e.is("order 0 of a level", level.strength(0), 32 * 32);
        e.is("order 16 of it", level.strength(16), 0);
        WornRings toAndFro = oneTurnCut(2, toAndFro(1));
        e.is("order 0 of to and fro", toAndFro.strength(0), 0);
        e.is("order 16 of it", toAndFro.strength(16), 32 * 32);
    }

    private static int[] all(int v) {
        int[] row = new int[32];
        java.util.Arrays.fill(row, v);
        return row;
    }

    private static int[] toAndFro(int v) {
        int[] row = new int[32];
        for (int j = 0; j < 32; j++) {
            row[j] = j % 2 == 0 ? v : -v;
        }
        return row;
    }

    @Says(in = "Promise 17", words = "BAD")
    static void strengthOfABadOrder(Edges e) {
        WornRings x = oneTurnCut(2, all(3));
        e.range("order", 0, 16, BAD, x::strength);
    }

    @Says(in = "Promise 17", words = "NOT: nothing was CUT.")
    static void strengthOfNothing(Edges e) {
        WornRings x = oneTurn(2, all(3));
        e.is("strength(0)", x.strength(0), NOT);
        e.is("strength(16)", x.strength(16), NOT);
        x.cut(0, 0, 2);
        e.is("behind a cut that is refused", x.strength(0), NOT);
    }

    @Says(in = "Terms", words = "STRENGTH at order k (0 .. 16) of THE MEAN m: with C(i) the numbers 1000, 981, 924, 831, "
        + "707, 556, 383, 195, 0 for i 0 .. 8")
    static void eachNumberOfC(Edges e) {
        // A MEAN of 1000 at one j alone: the sums are C and S there, a thousandfold.
        for (int j = 0; j < 32; j++) {
            int[] row = new int[32];
            row[j] = 1000;
            WornRings x = oneTurnCut(2, row);
            long along = WAVE[j];
            long across = WAVE[(j + 24) % 32];
            e.is("strength(1) of j " + j, x.strength(1), along * along + across * across);
        }
    }

    @Says(in = "Terms", words = "C(16 - i) less C(i), C(32 - i) the same as C(i), S(i) as C(i - 8) (all of i modulo 32)")
    static void aroundTheCircle(Edges e) {
        // Two j at once: the signs of C and S tell in the sum. All orders, so that k j wraps around 32.
        for (int k = 0; k <= 16; k++) {
            for (int j = 1; j < 32; j++) {
                int[] row = new int[32];
                row[1] = 1000;
                row[j] += 7000;
                long along = 1000L * WAVE[k % 32] + 7000L * WAVE[k * j % 32];
                long across = 1000L * WAVE[(k + 24) % 32] + 7000L * WAVE[(k * j + 24) % 32];
                e.is("strength(" + k + ") of 1 and " + j, oneTurnCut(2, row).strength(k),
                    (along * along + across * across) / 1000000);
            }
        }
    }

    @Says(in = "Terms", words = "the square of the sum of m(j) C(k j), and the square of that of m(j) S(k j), together, "
        + "by 1000000, cut down.")
    static void squaresTogetherCutDown(Edges e) {
        int[] row = new int[32];
        row[1] = 1;
        // The squares are cut down together, not each for itself.
        e.is("981 and 195: 1000386", oneTurnCut(2, row).strength(1), 1);
        e.is("831 and 556: 999697", oneTurnCut(2, row).strength(3), 0);
        row[1] = -1;
        e.is("a square is not below 0", oneTurnCut(2, row).strength(1), 1);
        e.is("nothing at all", oneTurnCut(2).strength(1), 0);
        e.is("the most there is, order 0", oneTurnCut(2, all(30000)).strength(0), 960000L * 960000L);
        e.is("the same below 0", oneTurnCut(2, all(-30000)).strength(0), 960000L * 960000L);
        e.is("the most there is, order 16", oneTurnCut(2, toAndFro(-30000)).strength(16), 960000L * 960000L);
    }
}
