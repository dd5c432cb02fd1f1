import java.lang.reflect.Method;
import java.util.function.IntConsumer;

/** The Terms of refusals, and how long an object is used. */
public final class TermsEdgesTest {
    private static final int BAD = WornRings.BAD;
    private static final int NOT = WornRings.NOT;
    private static final int FULL = WornRings.FULL;
    private static final int NONE = WornRings.NONE;
    private static final int NULL = WornRings.NULL;
    private static final int CAST = WornRings.CAST;
    private static final int INDEX = WornRings.INDEX;
    private static final int SIZE = WornRings.SIZE;
    private static final int[] ENDS = {Integer.MIN_VALUE, -1, 0, 1, 40, 200, Integer.MAX_VALUE};

    public static void main(String[] args) throws IllegalAccessException {
        Edges.run(TermsEdgesTest.class);
    }

    private static void times(int many, IntConsumer call) {
        for (int i = 0; i < many; i++) {
            call.accept(i);
        }
    }

    // ---- pasts

    private static void nothing(Asked x) {
    }

    /** Something of all: SHEETS 0, 1, 2 of LANES 0, 1, 2 with 33 items, SHEET 3 with nothing, LOAD 0 warned. */
    private static void someOfAll(Asked x) {
        x.ask("shaft", 0, 10, 20);
        x.ask("ring", 1, 8, 1, 4);
        x.ask("mark", 0);
        x.ask("mark", 10);
        x.ask("mark", 33);
        for (int sheet = 0; sheet < 3; sheet++) {
            x.ask("sheet", sheet, sheet, 34, sheet + 1);
            x.ask("item", sheet, sheet, 0, 99);
            x.ask("item", sheet, sheet, 33, -99);
        }
        x.ask("cut", 0, 0, 2);
        for (int above = 1; above < 4; above++) {
            x.ask("line", above, 1);
        }
        x.ask("line", 77, 2);
        x.ask("slip", 20);
        x.ask("laws", 140, 110, 3);
        for (int i = 0; i < 8; i++) {
            x.ask("reading", 0, i < 5 ? 100 : 141);
        }
        times(4, i -> x.ask("reading", 1, 100));
        times(6, i -> x.ask("reading", 2, 100));
    }

    private static void fullMachine(Asked x) {
        times(3, i -> x.ask("shaft", i, 10, 10 + i));
        times(8, i -> x.ask("ring", i % 4, 8, 1 + i, 100));
    }

    private static void fullMarks(Asked x) {
        times(60, i -> x.ask("mark", 10 * i));
    }

    private static void fullLines(Asked x) {
        times(12, i -> x.ask("line", 1 + i % 4, 1));
    }

    private static void fullLoad(Asked x) {
        times(198, i -> x.ask("reading", 2, 100));
        times(2, i -> x.ask("reading", 2, 151));
    }

    // ---- What it is

    @Says(in = "What it is", words = "An object is used for at most 512 calls after it has been made")
    static void the512thCall(Edges e) {
        Asked x = new Asked();
        fullMachine(x);
        fullMarks(x);
        fullLines(x);
        fullLoad(x);
        x.ask("sheet", 0, 2, 200, 3);
        times(x.callsLeft() - 5, i -> x.ask("item", 0, 2, i % 200, 300 + i % 200));
        e.is("call 508", x.ask("cut", 0, 0, 40), 40);
        e.is("call 509", x.ask("mean", 0), 364);
        e.is("call 510", x.ask("heap", -1), 1);
        e.is("call 511", x.ask("turns"), 60);
        e.is("call 512", x.ask("repair"), 1);
        e.is("calls left", x.callsLeft(), 0);
    }

    // ---- Terms

    @Says(in = "Terms", words = "Refusals are answers")
    static void noCallThrows(Edges e) {
        for (Method m : Asked.METHODS.values()) {
            int all = (int) Math.pow(ENDS.length, m.getParameterCount());
            Asked x = null;
            for (int choice = 0; choice < all; choice++) {
                if (x == null || x.callsLeft() == 0) {
                    x = new Asked();
                    if (choice % 2 == 0) {
                        someOfAll(x);
                    }
                }
                answers(e, x, m, choice);
            }
        }
    }

    private static void answers(Edges e, Asked x, Method m, int choice) {
        int[] arguments = new int[m.getParameterCount()];
        int rest = choice;
        for (int i = 0; i < arguments.length; i++) {
            arguments[i] = ENDS[rest % ENDS.length];
            rest /= ENDS.length;
        }
        long answer = x.ask(m.getName(), arguments);
        boolean refusal = answer <= BAD && answer >= NONE || answer <= NULL && answer >= SIZE;
        // An item, and so THE MEAN, may be any small number below 0.
        e.holds(m.getName() + java.util.Arrays.toString(arguments) + " answers, not " + answer,
            answer >= 0 || refusal || m.getName().equals("mean"));
    }

    @Says(in = "Terms", words = "BAD -1 (a number is not as told, or names nothing)")
    static void bad(Edges e) {
        e.is("BAD", BAD, -1);
        WornRings x = new WornRings();
        e.is("a SHAFT that names nothing", x.speed(1, 0), -1);
        e.is("a PART that names nothing", x.part(1, 0), -1);
        e.is("a TONE that names nothing", x.tone(0, 3, 0), -1);
        e.is("a MARK that names nothing", x.turn(0), -1);
        e.is("a SHEET that names nothing", x.drop(4), -1);
        e.is("a LOAD that names nothing", x.baseline(4), -1);
        e.is("a number that is not as told", x.slip(101), -1);
    }

    @Says(in = "Terms", words = "NOT -2 (as told)")
    static void not(Edges e) {
        e.is("NOT", NOT, -2);
        e.is("strength of nothing", new WornRings().strength(0), -2);
    }

    @Says(in = "Terms", words = "FULL -3")
    static void full(Edges e) {
        e.is("FULL", FULL, -3);
        Asked x = new Asked();
        fullMachine(x);
        fullMarks(x);
        fullLines(x);
        fullLoad(x);
        e.is("shaft", x.ask("shaft", 0, 9, 9), -3);
        e.is("ring", x.ask("ring", 0, 8, 1, 2), -3);
        e.is("mark", x.ask("mark", 1000), -3);
        e.is("line", x.ask("line", 1, 1), -3);
        e.is("reading", x.ask("reading", 2, 0), -3);
    }

    @Says(in = "Terms", words = "NONE -4 (as told)")
    static void none(Edges e) {
        e.is("NONE", NONE, -4);
        e.is("baseline", new WornRings().baseline(0), -4);
    }

    @Says(in = "Terms", words = "of several the first that a call names")
    static void badAheadOfFull(Edges e) {
        Asked x = new Asked();
        fullMachine(x);
        fullMarks(x);
        fullLines(x);
        fullLoad(x);
        e.is("shaft, by", x.ask("shaft", 4, 9, 9), BAD);
        e.is("shaft, a", x.ask("shaft", 0, 4, 9), BAD);
        e.is("shaft, b", x.ask("shaft", 0, 9, 201), BAD);
        e.is("ring, shaft", x.ask("ring", 4, 8, 1, 2), BAD);
        e.is("ring, balls", x.ask("ring", 0, 2, 1, 2), BAD);
        e.is("ring, p", x.ask("ring", 0, 8, 0, 2), BAD);
        e.is("ring, p as q", x.ask("ring", 0, 8, 2, 2), BAD);
        e.is("ring, q", x.ask("ring", 0, 8, 1, 101), BAD);
        e.is("mark, far below", x.ask("mark", -1), BAD);
        e.is("mark, beyond", x.ask("mark", 1000001), BAD);
        e.is("mark that does not rise", x.ask("mark", 590), BAD);
        e.is("line, above", x.ask("line", 0, 1), BAD);
        e.is("line, below", x.ask("line", 1, 10001), BAD);
        e.is("reading, v", x.ask("reading", 2, -1), BAD);
        e.is("reading, v", x.ask("reading", 2, 1000001), BAD);
        e.is("reading, load", x.ask("reading", 4, 0), BAD);
    }

    @Says(in = "Terms", words = "of several the first that a call names")
    static void badAheadOfNotAndNone(Edges e) {
        WornRings x = new WornRings();
        e.is("mean", x.mean(32), -1000001);
        e.is("mean", x.mean(-1), -1000001);
        e.is("strength", x.strength(17), BAD);
        e.is("strength", x.strength(-1), BAD);
        e.is("baseline", x.baseline(4), BAD);
        e.is("baseline", x.baseline(-1), BAD);
        x.sheet(0, 0, 0, 1);
        e.is("cut, c", x.cut(0, 0, 41), BAD);
        e.is("cut, c", x.cut(0, 0, 0), BAD);
        e.is("cut, t", x.cut(0, -1, 1), BAD);
        e.is("cut, NOT alone", x.cut(0, 0, 1), NOT);
    }

    @Says(in = "Terms", words = "of several the first that a call names")
    static void nullAheadOfNot(Edges e) {
        WornRings x = new WornRings();
        e.is("no SHEET, no TURNS", x.cut(0, 0, 1), NULL);
        e.is("no SHEET, far too many TURNS", x.cut(3, Integer.MAX_VALUE, 40), NULL);
        x.sheet(0, 0, 0, 1);
        e.is("no TURNS, not heard", x.cut(0, 0, 1), NOT);
        x.drop(0);
        e.is("no SHEET any more", x.cut(0, 0, 1), NULL);
    }

    @Says(in = "Terms", words = "what the machine finds: NULL -11, CAST -12, INDEX -13, SIZE -14, in this order, behind BAD.")
    static void whatTheMachineFinds(Edges e) {
        e.is("NULL", NULL, -11);
        e.is("CAST", CAST, -12);
        e.is("INDEX", INDEX, -13);
        e.is("SIZE", SIZE, -14);
        WornRings x = new WornRings();
        e.is("NULL ahead of INDEX", x.item(0, 1, -1, 0), NULL);
        x.sheet(0, 1, 3, 1);
        e.is("CAST ahead of INDEX", x.item(0, 0, 3, 0), CAST);
        e.is("CAST ahead of INDEX, below 0", x.item(0, 2, -1, 0), CAST);
        e.is("INDEX alone", x.item(0, 1, 3, 0), INDEX);
        e.is("none of them", x.item(0, 1, 2, 0), 1);
    }

    @Says(in = "Terms", words = "what the machine finds: NULL -11, CAST -12, INDEX -13, SIZE -14, in this order, behind BAD.")
    static void behindBad(Edges e) {
        WornRings x = new WornRings();
        x.sheet(0, 1, 3, 1);
        e.is("item: v ahead of NULL", x.item(1, 1, 0, 30001), BAD);
        e.is("item: lane ahead of NULL", x.item(1, 3, 0, 0), BAD);
        e.is("item: v ahead of CAST", x.item(0, 0, 0, -30001), BAD);
        e.is("item: lane, not CAST", x.item(0, 3, 0, 0), BAD);
        e.is("item: lane, not CAST, below 0", x.item(0, -1, 0, 0), BAD);
        e.is("item: v ahead of INDEX", x.item(0, 1, 3, 30001), BAD);
        e.is("item: v ahead of all", x.item(1, 0, -1, 30001), BAD);
        e.is("drop: sheet", x.drop(4), BAD);
        e.is("cut: c ahead of NULL", x.cut(1, 0, 41), BAD);
        e.is("cut: c 0 ahead of NULL", x.cut(1, 0, 0), BAD);
        e.is("cut: t ahead of NULL", x.cut(1, -1, 1), BAD);
        e.is("sheet: sheet ahead of SIZE", x.sheet(4, 0, -1, 1), BAD);
        e.is("sheet: lane ahead of SIZE", x.sheet(0, 3, -1, 1), BAD);
        e.is("sheet: step ahead of SIZE", x.sheet(0, 0, -1, 0), BAD);
        e.is("sheet: long step ahead of SIZE", x.sheet(0, 0, -1, 1001), BAD);
        e.is("sheet: SIZE alone", x.sheet(0, 0, -1, 1), SIZE);
    }

    @Says(in = "Terms", words = "What is refused changes nothing.")
    static void refusedOfNothing(Edges e) {
        Twins.Past past = TermsEdgesTest::nothing;
        badOfAll(e, "new", past);
        Twins.stay(e, "new", past, BAD, "shaft", 1, 9, 9);
        Twins.stay(e, "new", past, BAD, "ring", 1, 8, 1, 2);
        Twins.stay(e, "new", past, BAD, "mark", -1);
        Twins.stay(e, "new", past, NULL, "drop", 0);
        Twins.stay(e, "new", past, NULL, "item", 0, 0, 0, 5);
        Twins.stay(e, "new", past, NULL, "cut", 0, 0, 1);
        Twins.stay(e, "new", past, SIZE, "sheet", 0, 0, -1, 1);
        Twins.stay(e, "new", past, -1000002, "mean", 0);
        Twins.stay(e, "new", past, NOT, "strength", 0);
        Twins.stay(e, "new", past, NONE, "baseline", 0);
        Twins.stay(e, "new", past, BAD, "heap", 0);
    }

    @Says(in = "Terms", words = "What is refused changes nothing.")
    static void refusedOfSomeOfAll(Edges e) {
        String told = "some of all";
        Twins.Past past = TermsEdgesTest::someOfAll;
        badOfAll(e, told, past);
        Twins.stay(e, told, past, BAD, "shaft", 2, 9, 9);
        Twins.stay(e, told, past, BAD, "ring", 2, 8, 1, 2);
        Twins.stay(e, told, past, BAD, "mark", 33);
        Twins.stay(e, told, past, BAD, "mark", 32);
        Twins.stay(e, told, past, NULL, "drop", 3);
        Twins.stay(e, told, past, NULL, "item", 3, 0, 0, 5);
        Twins.stay(e, told, past, NULL, "cut", 3, 0, 1);
        Twins.stay(e, told, past, CAST, "item", 0, 1, 0, 5);
        Twins.stay(e, told, past, CAST, "item", 1, 2, 1, 5);
        Twins.stay(e, told, past, CAST, "item", 2, 0, 33, 5);
        Twins.stay(e, told, past, INDEX, "item", 0, 0, 34, 5);
        Twins.stay(e, told, past, INDEX, "item", 1, 1, -1, 5);
        Twins.stay(e, told, past, SIZE, "sheet", 0, 1, -1, 1);
        Twins.stay(e, told, past, SIZE, "sheet", 3, 1, -1, 1);
        Twins.stay(e, told, past, NOT, "cut", 1, 0, 40);
        Twins.stay(e, told, past, NOT, "cut", 1, 3, 1);
        Twins.stay(e, told, past, NONE, "baseline", 1);
        Twins.stay(e, told, past, BAD, "heap", 5);
    }

    @Says(in = "Terms", words = "What is refused changes nothing.")
    static void refusedOfTheFull(Edges e) {
        Twins.stay(e, "full machine", TermsEdgesTest::fullMachine, FULL, "shaft", 3, 9, 11);
        Twins.stay(e, "full machine", TermsEdgesTest::fullMachine, FULL, "ring", 3, 9, 11, 12);
        Twins.stay(e, "full machine", TermsEdgesTest::fullMachine, BAD, "shaft", 4, 9, 11);
        Twins.stay(e, "full MARKS", TermsEdgesTest::fullMarks, FULL, "mark", 600);
        Twins.stay(e, "full MARKS", TermsEdgesTest::fullMarks, FULL, "mark", 1000000);
        Twins.stay(e, "full MARKS", TermsEdgesTest::fullMarks, BAD, "mark", 590);
        Twins.stay(e, "full LINES", TermsEdgesTest::fullLines, FULL, "line", 5, 1);
        Twins.stay(e, "full LINES", TermsEdgesTest::fullLines, BAD, "line", 5, 0);
        Twins.stay(e, "full LOAD", TermsEdgesTest::fullLoad, FULL, "reading", 2, 0);
        Twins.stay(e, "full LOAD", TermsEdgesTest::fullLoad, FULL, "reading", 2, 1000000);
        Twins.stay(e, "full LOAD", TermsEdgesTest::fullLoad, BAD, "reading", 2, -1);
    }

    @Says(in = "Terms", words = "What is refused changes nothing.")
    static void refusedCutsOfASheetThatIsNotHeard(Edges e) {
        // The first TURNS are heard, the last is not: none of them may be told.
        Twins.Past past = x -> {
            someOfAll(x);
            x.ask("mark", 64);
        };
        Twins.stay(e, "not heard so long", past, NOT, "cut", 0, 0, 4);
        Twins.stay(e, "not heard so long", past, NOT, "cut", 0, 3, 1);
    }

    /** What is BAD whatever the past is. */
    private static void badOfAll(Edges e, String told, Twins.Past past) {
        int[][] shafts = {{-1, 9, 9}, {0, 4, 9}, {0, 201, 9}, {0, 9, 4}, {0, 9, 201}};
        int[][] rings = {{-1, 8, 1, 2}, {0, 2, 1, 2}, {0, 31, 1, 2}, {0, 8, 0, 2}, {0, 8, 2, 2}, {0, 8, 1, 101}};
        int[][] sheets = {{-1, 0, 1, 1}, {4, 0, 1, 1}, {0, -1, 1, 1}, {0, 3, 1, 1}, {0, 0, 201, 1}, {0, 0, 1, 0},
            {0, 0, 1, 1001}};
        int[][] items = {{-1, 0, 0, 5}, {4, 0, 0, 5}, {0, -1, 0, 5}, {0, 3, 0, 5}, {0, 0, 0, -30001}, {0, 0, 0, 30001}};
        int[][] cuts = {{-1, 0, 1}, {4, 0, 1}, {1, -1, 1}, {1, 0, 0}, {1, 0, 41}};
        int[][] laws = {{0, 0, 2}, {1001, 120, 2}, {150, 0, 2}, {150, 151, 2}, {150, 120, 0}, {150, 120, 5}};
        int[][] readings = {{-1, 5}, {4, 5}, {0, -1}, {0, 1000001}};
        allBad(e, told, past, "shaft", shafts);
        allBad(e, told, past, "ring", rings);
        allBad(e, told, past, "speed", new int[][] {{-1, 0}, {4, 0}, {0, -1}, {0, 2}});
        allBad(e, told, past, "part", new int[][] {{-1, 0}, {39, 0}, {0, -1}, {0, 3}});
        allBad(e, told, past, "tone", new int[][] {{-1, 0, 0}, {39, 0, 0}, {0, -1, 0}, {0, 3, 0}, {0, 0, 2}});
        allBad(e, told, past, "mark", new int[][] {{-1}, {1000001}});
        allBad(e, told, past, "turn", new int[][] {{-1}, {120}});
        allBad(e, told, past, "sheet", sheets);
        allBad(e, told, past, "drop", new int[][] {{-1}, {4}});
        allBad(e, told, past, "item", items);
        allBad(e, told, past, "cut", cuts);
        Twins.stay(e, told, past, -1000001, "mean", 32);
        allBad(e, told, past, "strength", new int[][] {{-1}, {17}});
        allBad(e, told, past, "line", new int[][] {{0, 1}, {1, 0}, {10001, 1}, {1, 10001}});
        allBad(e, told, past, "slip", new int[][] {{-1}, {101}});
        allBad(e, told, past, "explains", new int[][] {{-1}, {39}});
        allBad(e, told, past, "named", new int[][] {{-1}, {39}});
        allBad(e, told, past, "heap", new int[][] {{-2}, {12}});
        allBad(e, told, past, "laws", laws);
        allBad(e, told, past, "reading", readings);
        allBad(e, told, past, "baseline", new int[][] {{-1}, {4}});
        allBad(e, told, past, "warned", new int[][] {{-1}, {4}});
    }

    private static void allBad(Edges e, String told, Twins.Past past, String name, int[][] rows) {
        for (int[] row : rows) {
            Twins.stay(e, told, past, BAD, name, row);
        }
    }
}
