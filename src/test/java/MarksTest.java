/** Promises 8 to 11: MARKS, as they come and MENDED. */
public final class MarksTest {
    private static final Due DUE = new Due();

    public static void main(String[] args) {
        marks();
        refusals();
        full();
        unmark();
        fewerThanThree();
        oneAndAHalf();
        halvesGoUp();
        waysAsMended();
        cutDown();
        atMostAHundredAndTwenty();
        DUE.end();
    }

    private static WornRings marked(int... times) {
        WornRings x = new WornRings();
        for (int i = 0; i < times.length; i++) {
            DUE.is("mark(" + times[i] + ")", x.mark(times[i]), i + 1);
        }
        return x;
    }

    private static void mendedAre(WornRings x, int... due) {
        DUE.is("turns()", x.turns(), due.length);
        for (int i = 0; i < due.length; i++) {
            DUE.is("turn(" + i + ")", x.turn(i), due[i]);
        }
        DUE.is("turn behind the last", x.turn(due.length), WornRings.BAD);
        DUE.is("turn(-1)", x.turn(-1), WornRings.BAD);
    }

    private static void marks() {
        mendedAre(marked());
        mendedAre(marked(0), 0);
        mendedAre(marked(0, 10, 20, 31), 0, 10, 20, 31);
        mendedAre(marked(999999, 1000000), 999999, 1000000);
    }

    private static void refusals() {
        WornRings x = marked(5);
        DUE.is("the same", x.mark(5), WornRings.BAD);
        DUE.is("less", x.mark(4), WornRings.BAD);
        DUE.is("-1", x.mark(-1), WornRings.BAD);
        DUE.is("1000001", x.mark(1000001), WornRings.BAD);
        DUE.is("far below", x.mark(Integer.MIN_VALUE), WornRings.BAD);
        DUE.is("far above", x.mark(Integer.MAX_VALUE), WornRings.BAD);
        DUE.is("-1 on a new object", new WornRings().mark(-1), WornRings.BAD);
        DUE.is("turn far above", x.turn(Integer.MAX_VALUE), WornRings.BAD);
        DUE.is("turn far below", x.turn(Integer.MIN_VALUE), WornRings.BAD);
        mendedAre(x, 5);
        DUE.is("the next", x.mark(6), 2);
    }

    private static void full() {
        WornRings x = new WornRings();
        for (int i = 0; i < 60; i++) {
            DUE.is("mark " + i, x.mark(10 * i), i + 1);
        }
        DUE.is("one too many", x.mark(600), WornRings.FULL);
        DUE.is("BAD is named ahead of FULL", x.mark(590), WornRings.BAD);
        DUE.is("turns()", x.turns(), 60);
        DUE.is("all go", x.unmark(), 60);
        DUE.is("room again", x.mark(0), 1);
    }

    private static void unmark() {
        WornRings x = marked(0, 10, 40);
        DUE.is("unmark() tells those that came", x.unmark(), 3);
        DUE.is("unmark() again", x.unmark(), 0);
        mendedAre(x);
        DUE.is("a lesser time", x.mark(3), 1);
        DUE.is("and on", x.mark(4), 2);
        DUE.is("and on, mended by the new ways", x.mark(6), 3);
        mendedAre(x, 3, 4, 5, 6);
    }

    private static void fewerThanThree() {
        mendedAre(marked(0, 1000), 0, 1000);
    }

    private static void oneAndAHalf() {
        mendedAre(marked(0, 10, 25), 0, 10, 25);
        mendedAre(marked(0, 10, 26), 0, 10, 18, 26);
        mendedAre(marked(0, 7, 17), 0, 7, 17);
        mendedAre(marked(0, 7, 18), 0, 7, 12, 18);
        mendedAre(marked(0, 1, 2), 0, 1, 2);
        mendedAre(marked(0, 1, 3), 0, 1, 2, 3);
    }

    private static void halvesGoUp() {
        mendedAre(marked(0, 10, 34), 0, 10, 22, 34);
        mendedAre(marked(0, 10, 35), 0, 10, 18, 26, 35);
        mendedAre(marked(0, 3, 10), 0, 3, 6, 10);
        mendedAre(marked(0, 3, 11), 0, 3, 5, 8, 11);
    }

    private static void waysAsMended() {
        // The way ahead of 52 is that from 22 to 34, not from 10 to 34.
        mendedAre(marked(0, 10, 34, 52), 0, 10, 22, 34, 52);
        mendedAre(marked(0, 10, 34, 53), 0, 10, 22, 34, 43, 53);
        mendedAre(marked(0, 100, 110, 300), dueAfterShort());
    }

    private static int[] dueAfterShort() {
        int[] due = new int[22];
        for (int i = 0; i < 20; i++) {
            due[2 + i] = 110 + 10 * i;
        }
        due[1] = 100;
        return due;
    }

    private static void cutDown() {
        mendedAre(marked(0, 4, 15), 0, 4, 7, 11, 15);
        mendedAre(marked(2, 9, 44, 50), 2, 9, 16, 23, 30, 37, 44, 50);
    }

    private static void atMostAHundredAndTwenty() {
        WornRings x = marked(5, 9, 1000000);
        DUE.is("turns()", x.turns(), 120);
        DUE.is("turn(2)", x.turn(2), 12);
        DUE.is("turn(119)", x.turn(119), 480);
        DUE.is("turn(120)", x.turn(120), WornRings.BAD);
        DUE.is("no more behind the end", x.mark(1000000), WornRings.BAD);
        DUE.is("unmark()", x.unmark(), 3);
        x = marked(0, 1, 1000);
        DUE.is("a MARK that is left out counts", x.mark(1001), 4);
        DUE.is("and is risen from", x.mark(500), WornRings.BAD);
        DUE.is("turn(119) of ones", x.turn(119), 119);
        x = marked(0, 1, 118);
        DUE.is("119 of them", x.turns(), 119);
        x.mark(119);
        DUE.is("120 of them", x.turns(), 120);
        x.mark(120);
        DUE.is("still 120", x.turns(), 120);
        DUE.is("the last of them", x.turn(119), 119);
    }
}
