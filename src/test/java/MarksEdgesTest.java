import java.util.stream.IntStream;

/** Promises 8 to 11 and the Terms of MARKS: each sentence at its edges. */
public final class MarksEdgesTest {
    private static final int BAD = WornRings.BAD;
    private static final int LAST = 1000000;

    public static void main(String[] args) throws IllegalAccessException {
        Edges.run(MarksEdgesTest.class);
    }

    private static WornRings marked(int... times) {
        WornRings x = new WornRings();
        for (int time : times) {
            x.mark(time);
        }
        return x;
    }

    /** So many MARKS at 0, 10, 20 .. */
    private static WornRings tens(int many) {
        return marked(IntStream.range(0, many).map(i -> 10 * i).toArray());
    }

    // ---- Promise 8: mark

    @Says(in = "Promise 8", words = "One more MARK: how many.")
    static void markAnswersHowMany(Edges e) {
        WornRings x = new WornRings();
        e.is("the first", x.mark(0), 1);
        e.is("the second", x.mark(10), 2);
        e.is("mended ones do not count", x.mark(100), 3);
        e.is("nor then", x.mark(110), 4);
    }

    @Says(in = "Promise 8", words = "BAD: also it does not rise")
    static void markDoesNotRise(Edges e) {
        WornRings x = marked(0);
        e.is("0 behind 0", x.mark(0), BAD);
        e.is("1 behind 0", x.mark(1), 2);
        e.is("1 behind 1", x.mark(1), BAD);
        e.is("0 behind 1", x.mark(0), BAD);
        e.is("1000000", x.mark(LAST), 3);
        e.is("1000000 behind itself", x.mark(LAST), BAD);
        e.is("999999 behind it", x.mark(LAST - 1), BAD);
        e.is("the last MARK counts, not the last mended one", x.turn(119), 119);
        e.is("between the two", x.mark(500), BAD);
        x.unmark();
        e.is("the first one need not rise", x.mark(0), 1);
    }

    @Says(in = "Promise 8", words = "FULL: 60.")
    static void marksAreFull(Edges e) {
        WornRings x = tens(59);
        e.is("the sixtieth", x.mark(590), 60);
        e.is("one more", x.mark(600), WornRings.FULL);
        e.is("one more at the end", x.mark(LAST), WornRings.FULL);
        e.is("turns()", x.turns(), 60);
        e.is("turn(59)", x.turn(59), 590);
        e.is("turn(60)", x.turn(60), BAD);
    }

    @Says(in = "Promise 8", words = "FULL: 60.")
    static void marksThatAreLeftOutFillToo(Edges e) {
        WornRings x = marked(0, 1, 1000);
        for (int i = 3; i < 60; i++) {
            e.is("MARK " + i, x.mark(1000 + i), i + 1);
        }
        e.is("one more", x.mark(2000), WornRings.FULL);
        e.is("unmark()", x.unmark(), 60);
    }

    @Says(in = "Terms", words = "MARKS are times (0 .. 1000000)")
    static void times(Edges e) {
        e.range("time", 0, LAST, BAD, time -> new WornRings().mark(time));
        e.mended(marked(0, LAST), 0, LAST);
        e.upTo("time behind another", LAST, BAD, time -> marked(LAST - 1).mark(time));
        e.from("time behind 0", 1, BAD, time -> marked(0).mark(time));
    }

    @Says(in = "Terms", words = "that rise, as they come (60).")
    static void marksAsTheyCome(Edges e) {
        e.mended(marked());
        e.mended(marked(7), 7);
        e.mended(marked(7, 8, 9, 10), 7, 8, 9, 10);
        e.mended(tens(60), IntStream.range(0, 60).map(i -> 10 * i).toArray());
        e.mended(marked(7, 7, 8, 8, 7, 9), 7, 8, 9);
    }

    // ---- Promise 9: unmark

    @Says(in = "Promise 9", words = "All MARKS go: how many there were.")
    static void unmarkOfNoneAndAll(Edges e) {
        e.is("none", new WornRings().unmark(), 0);
        e.is("one", marked(5).unmark(), 1);
        e.is("three, with mended ones", marked(0, 1, LAST).unmark(), 3);
        WornRings x = tens(60);
        e.is("sixty", x.unmark(), 60);
        e.is("and then none", x.unmark(), 0);
        e.mended(x);
        e.is("time 0 again", x.mark(0), 1);
        for (int i = 1; i < 60; i++) {
            e.is("room for " + i, x.mark(i), i + 1);
        }
        e.is("and no more", x.mark(60), WornRings.FULL);
    }

    @Says(in = "Promise 9", words = "All MARKS go: how many there were.")
    static void unmarkForgetsTheWays(Edges e) {
        WornRings x = marked(0, 1);
        x.unmark();
        x.mark(0);
        e.is("two only, and none is mended", x.mark(100), 2);
        e.mended(x, 0, 100);
        x.mark(250);
        e.mended(x, 0, 100, 250);
    }

    // ---- Promise 10: turns

    @Says(in = "Promise 10", words = "How many MARKS there are, MENDED.")
    static void turnsFromNoneToTheMost(Edges e) {
        e.is("none", new WornRings().turns(), 0);
        e.is("one", marked(0).turns(), 1);
        e.is("two", marked(0, 1).turns(), 2);
        e.is("three", marked(0, 1, 2).turns(), 3);
        e.is("three and one", marked(0, 1, 3).turns(), 4);
        e.is("the most", marked(0, 1, LAST).turns(), 120);
    }

    // ---- Promise 11: turn

    @Says(in = "Promise 11", words = "MARK i, MENDED.")
    static void turnOfTheFirstAndLast(Edges e) {
        e.is("the only one", marked(LAST).turn(0), LAST);
        WornRings x = marked(3, 4, 6);
        e.is("the first", x.turn(0), 3);
        e.is("the mended one", x.turn(2), 5);
        e.is("the last", x.turn(3), 6);
    }

    @Says(in = "Promise 11", words = "BAD.")
    static void turnThatIsNotThere(Edges e) {
        e.is("of none", new WornRings().turn(0), BAD);
        e.is("of none, -1", new WornRings().turn(-1), BAD);
        e.range("i of 1", 0, 0, BAD, i -> marked(0).turn(i));
        e.range("i of 4", 0, 3, BAD, i -> marked(0, 1, 3).turn(i));
        e.range("i of 60", 0, 59, BAD, i -> tens(60).turn(i));
        e.range("i of 120", 0, 119, BAD, i -> marked(0, 1, LAST).turn(i));
        WornRings x = tens(3);
        x.unmark();
        e.is("behind unmark", x.turn(0), BAD);
    }

    // ---- Terms: MENDED

    @Says(in = "Terms", words = "MENDED: from the first two on, with w the way between the two MARKS ahead (as mended)")
    static void waysAsMended(Edges e) {
        // The first way is never mended, however long; the second one is by it.
        e.mended(marked(0, 900, 902, 904), 0, 900, 902, 904);
        e.mended(marked(0, 10, 26), 0, 10, 18, 26);
        // Ahead of the fourth lie 12 (mended), not 24; then 9 behind 10, the last of a way that was parted.
        e.mended(marked(0, 10, 34, 52), 0, 10, 22, 34, 52);
        e.mended(marked(0, 10, 34, 53), 0, 10, 22, 34, 43, 53);
        e.mended(marked(0, 10, 35, 48), 0, 10, 18, 26, 35, 48);
        e.mended(marked(0, 10, 35, 49), 0, 10, 18, 26, 35, 42, 49);
        // The two ahead need not be mended themselves.
        e.mended(marked(0, 10, 12, 15), 0, 10, 12, 15);
        e.mended(marked(0, 10, 12, 16), 0, 10, 12, 14, 16);
    }

    @Says(in = "Terms", words = "where the next MARK is more than one and a half w away")
    static void oneAndAHalf(Edges e) {
        e.mended(marked(0, 10, 25), 0, 10, 25);
        e.mended(marked(0, 10, 26), 0, 10, 18, 26);
        e.mended(marked(0, 7, 17), 0, 7, 17);
        e.mended(marked(0, 7, 18), 0, 7, 12, 18);
        e.mended(marked(0, 2, 5), 0, 2, 5);
        e.mended(marked(0, 2, 6), 0, 2, 4, 6);
        e.mended(marked(0, 1, 2), 0, 1, 2);
        e.mended(marked(0, 1, 3), 0, 1, 2, 3);
        e.mended(marked(0, 400000, LAST), 0, 400000, LAST);
        e.mended(marked(1, 400000, LAST), 1, 400000, 700000, LAST);
    }

    @Says(in = "Terms", words = "the number m of ways that fit best (that way by w, to the nearest whole number, "
        + "a half up, 2 at least)")
    static void waysThatFitBest(Edges e) {
        e.mended(marked(0, 10, 34), 0, 10, 22, 34);
        e.mended(marked(0, 10, 35), 0, 10, 18, 26, 35);
        e.mended(marked(0, 10, 44), 0, 10, 21, 32, 44);
        e.mended(marked(0, 10, 45), 0, 10, 18, 27, 36, 45);
        e.mended(marked(0, 7, 24), 0, 7, 15, 24);
        e.mended(marked(0, 7, 25), 0, 7, 13, 19, 25);
        e.mended(marked(0, 2, 6), 0, 2, 4, 6);
        e.mended(marked(0, 2, 7), 0, 2, 3, 5, 7);
        // 16 by 10 is nearer to 2 than to 1, as is all that is mended: it is never left whole.
        e.mended(marked(0, 10, 26), 0, 10, 18, 26);
    }

    @Says(in = "Terms", words = "parts it evenly: at each k of 1 .. m - 1 a MARK at the way times k by m (cut down) "
        + "behind; and so on.")
    static void partedEvenly(Edges e) {
        e.mended(marked(0, 4, 15), 0, 4, 7, 11, 15);
        e.mended(marked(3, 7, 18), 3, 7, 10, 14, 18);
        e.mended(marked(0, 3, 14), 0, 3, 5, 8, 11, 14);
        // The longest ways that are parted to the end: 118 of them.
        WornRings x = marked(0, 8403, LAST);
        e.is("turns()", x.turns(), 120);
        for (int k = 0; k < 118; k++) {
            e.is("turn(" + (1 + k) + ")", x.turn(1 + k), 8403 + 991597L * k / 118);
        }
        e.is("turn(119)", x.turn(119), LAST);
        // And so on: each way that was parted tells the next.
        e.mended(marked(0, 10, 30, 60, 63, 70), 0, 10, 20, 30, 40, 50, 60, 63, 66, 70);
    }

    @Says(in = "Terms", words = "(Of fewer than three MARKS none is mended")
    static void fewerThanThree(Edges e) {
        e.mended(marked());
        e.mended(marked(LAST), LAST);
        e.mended(marked(0, LAST), 0, LAST);
        e.mended(marked(999998, 999999), 999998, 999999);
        e.mended(marked(0, 1, 3), 0, 1, 2, 3);
    }

    @Says(in = "Terms", words = "at most 120 in all, the others behind that are left out.)")
    static void atMost120(Edges e) {
        e.is("119", marked(0, 1, 118).turns(), 119);
        e.is("120", marked(0, 1, 119).turns(), 120);
        e.is("the last MARK is the last of 120", marked(0, 1, 119).turn(119), 119);
        e.is("121", marked(0, 1, 120).turns(), 120);
        e.is("the last MARK is left out", marked(0, 1, 120).turn(119), 119);
        WornRings x = marked(0, 1, 119);
        e.is("a MARK behind 120", x.mark(500), 4);
        e.is("is left out", x.turns(), 120);
        e.is("with all that would be mended", x.turn(119), 119);
        x = marked(0, 10, 1000, 1010, 1020, 1100);
        e.is("parted at 99 ways", x.turn(100), 1000);
        e.is("then two as they come", x.turn(102), 1020);
        e.is("then parted again", x.turn(110), 1100);
        x.mark(LAST);
        e.is("turns()", x.turns(), 120);
        e.is("the last that has room", x.turn(119), 1190);
    }

    @Says(in = "Terms", words = "TURNS are from each of these to the next.")
    static void turnsFromEachToTheNext(Edges e) {
        e.is("none of none", heard().cut(0, 0, 1), WornRings.NOT);
        e.is("none of one", heard(0).cut(0, 0, 1), WornRings.NOT);
        e.is("one of two", heard(0, 1).cut(0, 0, 1), 1);
        e.is("no other of two", heard(0, 1).cut(0, 1, 1), WornRings.NOT);
        e.is("three of three and a mended one", heard(0, 1, 3).cut(0, 2, 1), 1);
        e.is("and no fourth", heard(0, 1, 3).cut(0, 3, 1), WornRings.NOT);
        e.is("119 of 120", heard(0, 1, 119).cut(0, 118, 1), 1);
        e.is("and no more", heard(0, 1, 119).cut(0, 119, 1), WornRings.NOT);
        e.is("119 of those that were left", heard(0, 1, 190).cut(0, 118, 1), 1);
        e.is("and no more", heard(0, 1, 190).cut(0, 119, 1), WornRings.NOT);
    }

    private static WornRings heard(int... times) {
        WornRings x = marked(times);
        x.sheet(0, 0, 200, 1);
        return x;
    }
}
