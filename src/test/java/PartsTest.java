/** Promises 1 to 7: SHAFTS, RINGS, SPEEDS, PARTS and TONES. */
public final class PartsTest {
    private static final Due DUE = new Due();

    public static void main(String[] args) {
        newObject();
        shafts();
        shaftRefusals();
        rings();
        ringRefusals();
        speeds();
        partsInOrder();
        partRefusals();
        tones();
        toneExtremes();
        DUE.end();
    }

    private static void newObject() {
        WornRings x = new WornRings();
        DUE.is("parts of a new object", x.parts(), 1);
        DUE.is("kind of its one part", x.part(0, 0), 0);
        DUE.is("its speed above", x.speed(0, 0), 1);
        DUE.is("its speed below", x.speed(0, 1), 1);
        DUE.is("no SHAFT 1", x.speed(1, 0), WornRings.BAD);
        DUE.is("no MARKS", x.turns(), 0);
        DUE.is("no MARKS go", x.unmark(), 0);
        DUE.is("no LINES go", x.unline(), 0);
        DUE.is("THE HEAP is empty", x.heap(-1), 0);
        DUE.is("nothing is strange", x.strange(), 0);
        DUE.is("nothing was CUT", x.mean(0), -1000002);
        DUE.is("no STRENGTH", x.strength(0), WornRings.NOT);
        for (int i = 0; i < 4; i++) {
            DUE.is("SHEET " + i + " holds nothing", x.drop(i), WornRings.NULL);
            DUE.is("LOAD " + i + " has no baseline", x.baseline(i), WornRings.NONE);
            DUE.is("LOAD " + i + " is not warned", x.warned(i), 0);
        }
        DUE.is("no LOAD was warned", x.repair(), 0);
        DUE.is("the slip at first", x.slip(0), 10);
    }

    private static void shafts() {
        WornRings x = new WornRings();
        DUE.is("shaft(0, 5, 200)", x.shaft(0, 5, 200), 1);
        DUE.is("shaft(1, 200, 5)", x.shaft(1, 200, 5), 2);
        DUE.is("shaft(0, 7, 7)", x.shaft(0, 7, 7), 3);
        DUE.is("a fifth", x.shaft(0, 7, 7), WornRings.FULL);
        DUE.is("a fifth by the last", x.shaft(3, 7, 7), WornRings.FULL);
        DUE.is("BAD is named ahead of FULL", x.shaft(4, 7, 7), WornRings.BAD);
        DUE.is("BAD teeth ahead of FULL", x.shaft(0, 4, 7), WornRings.BAD);
        DUE.is("parts", x.parts(), 7);
    }

    private static void shaftRefusals() {
        WornRings x = new WornRings();
        DUE.is("by one that is not there", x.shaft(1, 9, 9), WornRings.BAD);
        DUE.is("by -1", x.shaft(-1, 9, 9), WornRings.BAD);
        DUE.is("a 4", x.shaft(0, 4, 9), WornRings.BAD);
        DUE.is("a 201", x.shaft(0, 201, 9), WornRings.BAD);
        DUE.is("b 4", x.shaft(0, 9, 4), WornRings.BAD);
        DUE.is("b 201", x.shaft(0, 9, 201), WornRings.BAD);
        DUE.is("far off", x.shaft(Integer.MAX_VALUE, Integer.MIN_VALUE, Integer.MAX_VALUE), WornRings.BAD);
        DUE.is("nothing changed", x.parts(), 1);
        DUE.is("the first that is taken", x.shaft(0, 5, 5), 1);
    }

    private static void rings() {
        WornRings x = new WornRings();
        for (int i = 0; i < 8; i++) {
            DUE.is("ring " + i, x.ring(0, 3 + 3 * i, 1 + i, 100 - i), i);
            DUE.is("parts with " + i, x.parts(), 1 + 4 * (i + 1));
        }
        DUE.is("a ninth", x.ring(0, 3, 1, 2), WornRings.FULL);
        DUE.is("BAD is named ahead of FULL", x.ring(1, 3, 1, 2), WornRings.BAD);
        DUE.is("BAD size ahead of FULL", x.ring(0, 3, 2, 2), WornRings.BAD);
        DUE.is("still", x.parts(), 33);
    }

    private static void ringRefusals() {
        WornRings x = new WornRings();
        DUE.is("shaft 1", x.ring(1, 8, 1, 2), WornRings.BAD);
        DUE.is("shaft -1", x.ring(-1, 8, 1, 2), WornRings.BAD);
        DUE.is("2 balls", x.ring(0, 2, 1, 2), WornRings.BAD);
        DUE.is("31 balls", x.ring(0, 31, 1, 2), WornRings.BAD);
        DUE.is("p 0", x.ring(0, 8, 0, 2), WornRings.BAD);
        DUE.is("p as q", x.ring(0, 8, 2, 2), WornRings.BAD);
        DUE.is("p above q", x.ring(0, 8, 3, 2), WornRings.BAD);
        DUE.is("q 101", x.ring(0, 8, 1, 101), WornRings.BAD);
        DUE.is("q far below", x.ring(0, 8, Integer.MIN_VALUE, Integer.MIN_VALUE), WornRings.BAD);
        DUE.is("q far above", x.ring(0, 8, 1, Integer.MAX_VALUE), WornRings.BAD);
        DUE.is("nothing changed", x.parts(), 1);
        DUE.is("3 balls, 1 to 2", x.ring(0, 3, 1, 2), 0);
        DUE.is("30 balls, 99 to 100", x.ring(0, 30, 99, 100), 1);
    }

    private static void speeds() {
        WornRings x = new WornRings();
        x.shaft(0, 20, 30);
        x.shaft(1, 15, 50);
        x.shaft(0, 199, 200);
        speedIs(x, 0, 1, 1);
        speedIs(x, 1, 2, 3);
        speedIs(x, 2, 1, 5);
        speedIs(x, 3, 199, 200);
        DUE.is("what 2", x.speed(0, 2), WornRings.BAD);
        DUE.is("what -1", x.speed(0, -1), WornRings.BAD);
        DUE.is("shaft 4", x.speed(4, 0), WornRings.BAD);
        DUE.is("shaft -1", x.speed(-1, 0), WornRings.BAD);
    }

    private static void speedIs(WornRings x, int shaft, long above, long below) {
        DUE.is("speed above of " + shaft, x.speed(shaft, 0), above);
        DUE.is("speed below of " + shaft, x.speed(shaft, 1), below);
    }

    private static void partsInOrder() {
        WornRings x = new WornRings();
        x.shaft(0, 10, 20);
        x.ring(1, 10, 20, 50);
        x.shaft(1, 30, 20);
        x.ring(0, 8, 1, 4);
        DUE.is("parts", x.parts(), 13);
        int[][] due = {{0, 0, 3}, {0, 1, 3}, {0, 2, 3}, {1, 1, 2}, {1, 2, 2},
            {2, 1, 2}, {3, 1, 3}, {4, 1, 1}, {5, 1, 2}, {2, 0, 2}, {3, 0, 3}, {4, 0, 1}, {5, 0, 2}};
        for (int i = 0; i < due.length; i++) {
            for (int what = 0; what < 3; what++) {
                DUE.is("part(" + i + ", " + what + ")", x.part(i, what), due[i][what]);
            }
        }
        DUE.is("part(13, 0)", x.part(13, 0), WornRings.BAD);
    }

    private static void partRefusals() {
        WornRings x = new WornRings();
        x.ring(0, 8, 1, 4);
        DUE.is("part -1", x.part(-1, 0), WornRings.BAD);
        DUE.is("part 5", x.part(5, 0), WornRings.BAD);
        DUE.is("what -1", x.part(0, -1), WornRings.BAD);
        DUE.is("what 3", x.part(0, 3), WornRings.BAD);
        DUE.is("far off", x.part(Integer.MAX_VALUE, Integer.MIN_VALUE), WornRings.BAD);
        DUE.is("tone of part -1", x.tone(-1, 0, 0), WornRings.BAD);
        DUE.is("tone of part 5", x.tone(5, 0, 0), WornRings.BAD);
        DUE.is("tone -1", x.tone(0, -1, 0), WornRings.BAD);
        DUE.is("tone 3 of a shaft", x.tone(0, 3, 0), WornRings.BAD);
        DUE.is("tone 1 of a cage", x.tone(3, 1, 0), WornRings.BAD);
        DUE.is("what -1 of a tone", x.tone(0, 0, -1), WornRings.BAD);
        DUE.is("what 2 of a tone", x.tone(0, 0, 2), WornRings.BAD);
    }

    private static void tones() {
        WornRings x = new WornRings();
        x.shaft(0, 20, 30);
        x.ring(1, 9, 3, 8);
        tonesAre(x, 0, new long[][] {{1, 1}, {2, 1}, {3, 1}});
        tonesAre(x, 1, new long[][] {{2, 3}, {4, 3}, {2, 1}});
        tonesAre(x, 2, new long[][] {{20, 1}, {40, 1}});
        tonesAre(x, 3, new long[][] {{15, 8}, {15, 4}});
        tonesAre(x, 4, new long[][] {{33, 8}, {33, 4}, {83, 24}});
        tonesAre(x, 5, new long[][] {{5, 24}});
        tonesAre(x, 6, new long[][] {{55, 72}, {55, 36}});
    }

    private static void toneExtremes() {
        WornRings x = new WornRings();
        x.shaft(0, 199, 200);
        x.shaft(1, 199, 200);
        x.shaft(2, 199, 200);
        x.ring(3, 29, 99, 100);
        long above = 199L * 199 * 199;
        long below = 8000000;
        tonesAre(x, 3, new long[][] {{above, below}, {above, below / 2}, {3 * above, below}});
        tonesAre(x, 6, new long[][] {{above, below / 200}, {above, below / 400}});
        tonesAre(x, 7, new long[][] {{29 * above, 200 * below}, {29 * above, 100 * below}});
        tonesAre(x, 10, new long[][] {{199 * above, 2 * 9900 * below}, {199 * above, 9900 * below}});
    }

    private static void tonesAre(WornRings x, int part, long[][] due) {
        DUE.is("tones of " + part, x.part(part, 2), due.length);
        for (int i = 0; i < due.length; i++) {
            DUE.is("tone(" + part + ", " + i + ", 0)", x.tone(part, i, 0), due[i][0]);
            DUE.is("tone(" + part + ", " + i + ", 1)", x.tone(part, i, 1), due[i][1]);
        }
        DUE.is("no tone " + due.length, x.tone(part, due.length, 0), WornRings.BAD);
    }
}
