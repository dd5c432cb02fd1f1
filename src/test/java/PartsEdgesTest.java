/** Promises 1 to 7 and the Terms of SHAFTS, RINGS, TONES and PARTS: each sentence at its edges. */
public final class PartsEdgesTest {
    private static final int BAD = WornRings.BAD;
    private static final int FULL = WornRings.FULL;

    public static void main(String[] args) throws IllegalAccessException {
        Edges.run(PartsEdgesTest.class);
    }

    /** An object with so many SHAFTS, all of SPEED 1 / 1. */
    private static WornRings withShafts(int many) {
        WornRings x = new WornRings();
        for (int i = 1; i < many; i++) {
            x.shaft(i - 1, 10, 10);
        }
        return x;
    }

    private static WornRings withRings(int many) {
        WornRings x = new WornRings();
        for (int i = 0; i < many; i++) {
            x.ring(0, 8, 1, 4);
        }
        return x;
    }

    // ---- Promise 1: A new object

    @Says(in = "Promise 1", words = "SHAFT 0 alone")
    static void newObjectHasShaft0Alone(Edges e) {
        WornRings x = new WornRings();
        e.is("parts()", x.parts(), 1);
        e.speed(x, 0, 1, 1);
        e.is("no SHAFT 1", x.speed(1, 0), BAD);
        e.is("no SHAFT to turn by", x.shaft(1, 9, 9), BAD);
        e.is("no SHAFT to sit on", x.ring(1, 8, 1, 2), BAD);
        e.is("the next RING is the first", x.ring(0, 8, 1, 2), 0);
        e.is("the next SHAFT is 1", x.shaft(0, 9, 9), 1);
    }

    @Says(in = "Promise 1", words = "no MARKS, LINES, READINGS")
    static void newObjectHasNoMarks(Edges e) {
        e.is("turns()", new WornRings().turns(), 0);
        e.is("turn(0)", new WornRings().turn(0), BAD);
        e.is("unmark()", new WornRings().unmark(), 0);
        e.is("mark(0)", new WornRings().mark(0), 1);
    }

    @Says(in = "Promise 1", words = "no MARKS, LINES, READINGS")
    static void newObjectHasNoLines(Edges e) {
        e.is("unline()", new WornRings().unline(), 0);
        e.is("explains(0)", new WornRings().explains(0), 0);
        e.is("named(0)", new WornRings().named(0), 0);
        e.is("heap(-1)", new WornRings().heap(-1), 0);
        e.is("heap(0)", new WornRings().heap(0), BAD);
        e.is("strange()", new WornRings().strange(), 0);
        e.is("line(1, 1)", new WornRings().line(1, 1), 0);
    }

    @Says(in = "Promise 1", words = "no MARKS, LINES, READINGS")
    static void newObjectHasNoReadings(Edges e) {
        e.is("repair()", new WornRings().repair(), 0);
        for (int load = 0; load < 4; load++) {
            e.is("baseline", new WornRings().baseline(load), WornRings.NONE);
            e.is("warned", new WornRings().warned(load), 0);
            e.is("the first", new WornRings().reading(load, 0), 1);
        }
    }

    @Says(in = "Promise 1", words = "nothing in SHEETS")
    static void newObjectHasNothingInSheets(Edges e) {
        for (int sheet = 0; sheet < 4; sheet++) {
            e.is("drop", new WornRings().drop(sheet), WornRings.NULL);
            e.is("item", new WornRings().item(sheet, 0, 0, 0), WornRings.NULL);
            e.is("cut", new WornRings().cut(sheet, 0, 1), WornRings.NULL);
        }
        e.is("mean", new WornRings().mean(0), -1000002);
        e.is("strength", new WornRings().strength(0), WornRings.NOT);
    }

    private static WornRings readAbove100(int... values) {
        WornRings x = new WornRings();
        for (int i = 0; i < 5; i++) {
            x.reading(0, 100);
        }
        for (int v : values) {
            x.reading(0, v);
        }
        return x;
    }

    @Says(in = "Promise 1", words = "a 150, b 120, u 2, slip 10")
    static void newObjectsLaws(Edges e) {
        e.is("150 twice", readAbove100(150, 150).warned(0), 0);
        e.is("151 once", readAbove100(151).warned(0), 0);
        e.is("151 twice", readAbove100(151, 151).warned(0), 1);
        e.is("then 120", readAbove100(151, 151, 120).warned(0), 1);
        e.is("then 119", readAbove100(151, 151, 119).warned(0), 0);
    }

    @Says(in = "Promise 1", words = "a 150, b 120, u 2, slip 10")
    static void newObjectsSlip(Edges e) {
        WornRings x = new WornRings();
        x.line(1010, 1000);
        x.line(1011, 1000);
        x.line(990, 1000);
        x.line(989, 1000);
        e.is("ten thousandths", x.explains(0), 0b0101);
        e.is("slip(0)", x.slip(0), 10);
    }

    // ---- Promise 2: shaft, and its Terms

    @Says(in = "Promise 2", words = "A SHAFT turned by another one: its number.")
    static void shaftAnswersItsNumber(Edges e) {
        WornRings x = new WornRings();
        e.is("the first", x.shaft(0, 9, 9), 1);
        e.is("the second", x.shaft(0, 9, 9), 2);
        e.is("the third", x.shaft(0, 9, 9), 3);
    }

    @Says(in = "Promise 2", words = "BAD")
    static void shaftByOneThatIsNotThere(Edges e) {
        for (int many = 1; many < 4; many++) {
            int shafts = many;
            e.range("by, of " + many, 0, many - 1, BAD, by -> withShafts(shafts).shaft(by, 9, 9));
        }
    }

    @Says(in = "Promise 2", words = "FULL: 4.")
    static void shaftsAreFull(Edges e) {
        e.is("the fourth", withShafts(3).shaft(2, 9, 9), 3);
        WornRings x = withShafts(4);
        for (int by = 0; by < 4; by++) {
            e.is("a fifth by " + by, x.shaft(by, 9, 9), FULL);
        }
        e.is("parts()", x.parts(), 7);
    }

    @Says(in = "Terms", words = "SHAFTS 0 .. 3, as they come (0 is there at first)")
    static void shaftsAsTheyCome(Edges e) {
        WornRings x = new WornRings();
        e.speed(x, 0, 1, 1);
        x.shaft(0, 5, 7);
        x.shaft(0, 7, 11);
        x.shaft(0, 11, 13);
        e.speed(x, 0, 1, 1);
        e.speed(x, 1, 5, 7);
        e.speed(x, 2, 7, 11);
        e.speed(x, 3, 11, 13);
        e.is("no SHAFT 4", x.speed(4, 0), BAD);
    }

    @Says(in = "Terms", words = "each but 0 is turned by a lesser one")
    static void turnedByALesserOne(Edges e) {
        WornRings x = new WornRings();
        e.is("1 by itself", x.shaft(1, 9, 9), BAD);
        e.is("1 by 0", x.shaft(0, 5, 7), 1);
        e.is("2 by itself", x.shaft(2, 9, 9), BAD);
        e.is("2 by 3", x.shaft(3, 9, 9), BAD);
        e.is("2 by 1", x.shaft(1, 5, 7), 2);
        e.is("3 by itself", x.shaft(3, 9, 9), BAD);
        e.is("3 by 2", x.shaft(2, 5, 7), 3);
        e.speed(x, 3, 125, 343);
    }

    @Says(in = "Terms", words = "by GEARS of 5 to 200 teeth, a on that, b on it")
    static void teeth(Edges e) {
        e.range("a", 5, 200, BAD, a -> new WornRings().shaft(0, a, 9));
        e.range("b", 5, 200, BAD, b -> new WornRings().shaft(0, 9, b));
        e.is("a 0", new WornRings().shaft(0, 0, 9), BAD);
        e.is("b 0", new WornRings().shaft(0, 9, 0), BAD);
        WornRings x = new WornRings();
        x.shaft(0, 5, 200);
        e.tones(x, 2, 5, 1, 10, 1);
        x.shaft(1, 200, 5);
        e.tones(x, 4, 5, 1, 10, 1);
    }

    @Says(in = "Terms", words = "its SPEED is a by b of that one's; SPEED of 0 is 1 / 1.")
    static void speedsOfAllShafts(Edges e) {
        WornRings fast = new WornRings();
        WornRings slow = new WornRings();
        for (int i = 0; i < 3; i++) {
            fast.shaft(i, 200, 5);
            slow.shaft(i, 5, 200);
        }
        e.speed(fast, 0, 1, 1);
        e.speed(fast, 3, 64000, 1);
        e.speed(slow, 3, 1, 64000);
        WornRings wide = new WornRings();
        wide.shaft(0, 199, 200);
        wide.shaft(1, 197, 198);
        wide.shaft(2, 193, 196);
        e.speed(wide, 3, 199L * 197 * 193, 200L * 198 * 196);
        WornRings back = new WornRings();
        back.shaft(0, 7, 10);
        back.shaft(1, 10, 7);
        back.shaft(0, 6, 35);
        e.speed(back, 2, 1, 1);
        e.speed(back, 3, 6, 35);
    }

    // ---- Promise 3: ring, and its Terms

    @Says(in = "Promise 3", words = "A RING: its number.")
    static void ringAnswersItsNumber(Edges e) {
        WornRings x = withShafts(4);
        for (int i = 0; i < 8; i++) {
            e.is("RING " + i, x.ring(i % 4, 3 + i, 1, 2), i);
        }
    }

    @Says(in = "Promise 3", words = "BAD")
    static void ringOnAShaftThatIsNotThere(Edges e) {
        for (int many = 1; many <= 4; many++) {
            int shafts = many;
            e.range("shaft, of " + many, 0, many - 1, BAD, shaft -> withShafts(shafts).ring(shaft, 8, 1, 2));
        }
    }

    @Says(in = "Promise 3", words = "FULL: 8.")
    static void ringsAreFull(Edges e) {
        e.is("the eighth", withRings(7).ring(0, 8, 1, 4), 7);
        WornRings x = withRings(8);
        e.is("a ninth", x.ring(0, 8, 1, 4), FULL);
        e.is("a tenth", x.ring(0, 30, 99, 100), FULL);
        e.is("parts()", x.parts(), 33);
        e.is("a SHAFT still comes", x.shaft(0, 9, 9), 1);
        e.is("and bears no ninth", x.ring(1, 8, 1, 4), FULL);
    }

    @Says(in = "Terms", words = "RINGS 0 .. 7, as they come, sit on a SHAFT")
    static void ringsAsTheyCome(Edges e) {
        WornRings x = withShafts(4);
        for (int i = 0; i < 8; i++) {
            x.ring(3 - i % 4, 3 + i, 1, 2);
        }
        e.are("the SHAFT of RING", i -> x.part(7 + 4 * i, 1), 3, 2, 1, 0, 3, 2, 1, 0, BAD);
        e.are("outer TONE above of RING", i -> x.tone(7 + 4 * i, 0, 0), 3, 1, 5, 3, 7, 2, 9, 5, BAD);
        e.are("outer TONE below of RING", i -> x.tone(7 + 4 * i, 0, 1), 4, 1, 4, 2, 4, 1, 4, 2, BAD);
    }

    @Says(in = "Terms", words = "3 to 30 balls (n)")
    static void balls(Edges e) {
        e.range("balls", 3, 30, BAD, n -> new WornRings().ring(0, n, 1, 2));
        e.is("0 balls", new WornRings().ring(0, 0, 1, 2), BAD);
        WornRings x = new WornRings();
        x.ring(0, 3, 1, 2);
        x.ring(0, 30, 1, 2);
        e.tones(x, 1, 3, 4, 3, 2);
        e.tones(x, 5, 15, 2, 15, 1);
    }

    @Says(in = "Terms", words = "of a size p to q (1 <= p < q <= 100)")
    static void sizes(Edges e) {
        e.range("p of 2", 1, 1, BAD, p -> new WornRings().ring(0, 8, p, 2));
        e.range("p of 100", 1, 99, BAD, p -> new WornRings().ring(0, 8, p, 100));
        e.range("q of 1", 2, 100, BAD, q -> new WornRings().ring(0, 8, 1, q));
        e.range("q of 99", 100, 100, BAD, q -> new WornRings().ring(0, 8, 99, q));
        e.range("q of 50", 51, 100, BAD, q -> new WornRings().ring(0, 8, 50, q));
        e.is("p 0, q 1", new WornRings().ring(0, 8, 0, 1), BAD);
        e.is("p 100, q 101", new WornRings().ring(0, 8, 100, 101), BAD);
        e.is("both far below", new WornRings().ring(0, 8, Integer.MIN_VALUE, Integer.MIN_VALUE), BAD);
        e.is("both far above", new WornRings().ring(0, 8, Integer.MAX_VALUE, Integer.MAX_VALUE), BAD);
        e.is("from end to end", new WornRings().ring(0, 8, Integer.MIN_VALUE, Integer.MAX_VALUE), BAD);
    }

    // ---- Promise 4: speed

    @Says(in = "Promise 4", words = "The SPEED of a SHAFT: 0 above, 1 below.")
    static void speedAboveAndBelow(Edges e) {
        WornRings x = new WornRings();
        x.shaft(0, 20, 30);
        e.is("speed(1, 0)", x.speed(1, 0), 2);
        e.is("speed(1, 1)", x.speed(1, 1), 3);
        e.range("what", 0, 1, BAD, what -> x.speed(1, what));
    }

    @Says(in = "Promise 4", words = "BAD.")
    static void speedOfAShaftThatIsNotThere(Edges e) {
        for (int many = 1; many <= 4; many++) {
            WornRings x = withShafts(many);
            e.range("above, of " + many, 0, many - 1, BAD, shaft -> x.speed(shaft, 0));
            e.range("below, of " + many, 0, many - 1, BAD, shaft -> x.speed(shaft, 1));
        }
    }

    // ---- Promise 5: parts

    @Says(in = "Promise 5", words = "How many PARTS.")
    static void partsFromOneToThirtyNine(Edges e) {
        WornRings x = new WornRings();
        e.is("the fewest", x.parts(), 1);
        for (int i = 1; i < 4; i++) {
            x.shaft(0, 9, 9);
            e.is("with SHAFT " + i, x.parts(), 1 + 2 * i);
        }
        for (int i = 0; i < 8; i++) {
            x.ring(0, 8, 1, 4);
            e.is("with RING " + i, x.parts(), 7 + 4 * (i + 1));
        }
        e.is("the most", x.parts(), 39);
    }

    // ---- Promise 6: part, and its Terms

    @Says(in = "Promise 6", words = "Of a PART: 0 its kind, 1 its SHAFT (of a RING's that it sits on), 2 how many TONES.")
    static void partsAreTold(Edges e) {
        WornRings x = withShafts(2);
        x.ring(1, 8, 1, 4);
        e.are("kind of", i -> x.part(i, 0), 0, 0, 1, 2, 3, 4, 5);
        e.are("SHAFT of", i -> x.part(i, 1), 0, 1, 1, 1, 1, 1, 1);
        e.are("TONES of", i -> x.part(i, 2), 3, 3, 2, 2, 3, 1, 2);
        e.range("what of a SHAFT's", 0, 2, BAD, what -> x.part(0, what));
        e.range("what of a RING's", 0, 2, BAD, what -> x.part(6, what));
    }

    @Says(in = "Promise 6", words = "BAD.")
    static void partThatIsNotThere(Edges e) {
        e.range("part of 1", 0, 0, BAD, part -> new WornRings().part(part, 0));
        e.range("part of 5", 0, 4, BAD, part -> withRings(1).part(part, 0));
        e.range("part of 7", 0, 6, BAD, part -> withShafts(4).part(part, 0));
        WornRings x = withShafts(4);
        for (int i = 0; i < 8; i++) {
            x.ring(i % 4, 8, 1, 4);
        }
        e.range("part of 39", 0, 38, BAD, part -> x.part(part, 0));
        e.is("the last one's kind", x.part(38, 0), 5);
    }

    @Says(in = "Terms", words = "PARTS are, in this order: SHAFTS (kind 0), GEARS of SHAFTS 1 .. (kind 1), "
        + "then of each RING kinds 2, 3, 4, 5.")
    static void partsInTheirOrder(Edges e) {
        WornRings x = new WornRings();
        e.are("kind of a new object's", i -> x.part(i, 0), 0, BAD);
        x.ring(0, 8, 1, 4);
        e.are("kind, no GEARS", i -> x.part(i, 0), 0, 2, 3, 4, 5, BAD);
        x.shaft(0, 10, 10);
        e.are("kind, the RING behind the GEARS", i -> x.part(i, 0), 0, 0, 1, 2, 3, 4, 5, BAD);
        x.ring(1, 8, 1, 4);
        x.shaft(0, 10, 10);
        e.are("kind, of two RINGS", i -> x.part(i, 0), 0, 0, 0, 1, 1, 2, 3, 4, 5, 2, 3, 4, 5, BAD);
        e.are("SHAFT, of two RINGS", i -> x.part(i, 1), 0, 1, 2, 1, 2, 0, 0, 0, 0, 1, 1, 1, 1, BAD);
    }

    // ---- Promise 7: tone, and its Terms

    @Says(in = "Promise 7", words = "TONE i of a PART: 0 above, 1 below.")
    static void toneAboveAndBelow(Edges e) {
        WornRings x = withRings(1);
        e.is("tone(3, 0, 0)", x.tone(3, 0, 0), 3);
        e.is("tone(3, 0, 1)", x.tone(3, 0, 1), 8);
        e.range("what", 0, 1, BAD, what -> x.tone(3, 0, what));
    }

    @Says(in = "Promise 7", words = "BAD.")
    static void toneThatIsNotThere(Edges e) {
        WornRings x = withShafts(2);
        x.ring(0, 8, 1, 4);
        int[] tones = {3, 3, 2, 2, 3, 1, 2};
        for (int i = 0; i < tones.length; i++) {
            int part = i;
            e.range("i of PART " + i, 0, tones[i] - 1, BAD, tone -> x.tone(part, tone, 0));
            e.range("i below of PART " + i, 0, tones[i] - 1, BAD, tone -> x.tone(part, tone, 1));
        }
        e.range("part", 0, 6, BAD, part -> x.tone(part, 0, 0));
    }

    @Says(in = "Terms", words = "TONES of a SHAFT of SPEED s: 0: s, 2 s, 3 s (kind 0, its own).")
    static void ownTones(Edges e) {
        WornRings x = new WornRings();
        x.shaft(0, 5, 6);
        e.tones(x, 0, 1, 1, 2, 1, 3, 1);
        e.tones(x, 1, 5, 6, 5, 3, 5, 2);
    }

    @Says(in = "Terms", words = "Of its GEARS (SHAFTS 1 ..; kind 1): b s, 2 b s.")
    static void gearTones(Edges e) {
        WornRings x = new WornRings();
        e.is("SHAFT 0 has none", x.part(1, 0), BAD);
        x.shaft(0, 5, 200);
        x.shaft(1, 7, 5);
        x.shaft(1, 200, 199);
        e.tones(x, 4, 5, 1, 10, 1);
        e.tones(x, 5, 7, 40, 7, 20);
        e.tones(x, 6, 5, 1, 10, 1);
    }

    @Says(in = "Terms", words = "Of a RING on it: kind 2, outer: n (q - p) s / 2 q, and twice that")
    static void outerTones(Edges e) {
        WornRings x = new WornRings();
        x.shaft(0, 5, 7);
        x.ring(0, 3, 99, 100);
        x.ring(0, 30, 1, 100);
        x.ring(1, 9, 3, 8);
        e.tones(x, 3, 3, 200, 3, 100);
        e.tones(x, 7, 297, 20, 297, 10);
        e.tones(x, 11, 225, 112, 225, 56);
    }

    @Says(in = "Terms", words = "kind 3, inner: n (q + p) s / 2 q, twice that, and that less s")
    static void innerTones(Edges e) {
        WornRings x = new WornRings();
        x.shaft(0, 5, 7);
        x.ring(0, 3, 1, 100);
        x.ring(0, 30, 99, 100);
        x.ring(1, 9, 3, 8);
        e.tones(x, 4, 303, 200, 303, 100, 103, 200);
        e.tones(x, 8, 597, 20, 597, 10, 577, 20);
        e.tones(x, 12, 495, 112, 495, 56, 415, 112);
    }

    @Says(in = "Terms", words = "kind 4, cage: (q - p) s / 2 q")
    static void cageTones(Edges e) {
        WornRings x = new WornRings();
        x.shaft(0, 5, 7);
        x.ring(0, 3, 1, 100);
        x.ring(0, 30, 99, 100);
        x.ring(1, 9, 3, 8);
        e.tones(x, 5, 99, 200);
        e.tones(x, 9, 1, 200);
        e.tones(x, 13, 25, 112);
    }

    @Says(in = "Terms", words = "kind 5, balls: (q q - p p) s / 2 p q, and twice that.")
    static void ballTones(Edges e) {
        WornRings x = new WornRings();
        x.shaft(0, 5, 7);
        x.ring(0, 3, 1, 100);
        x.ring(0, 30, 99, 100);
        x.ring(1, 9, 3, 8);
        e.tones(x, 6, 9999, 200, 9999, 100);
        e.tones(x, 10, 199, 19800, 199, 9900);
        e.tones(x, 14, 275, 336, 275, 168);
    }

    @Says(in = "Terms", words = "(Those that are not whole: as fractions without common divisors.)")
    static void withoutCommonDivisors(Edges e) {
        WornRings x = new WornRings();
        x.shaft(0, 60, 20);
        x.shaft(0, 20, 60);
        x.ring(2, 12, 30, 60);
        e.tones(x, 1, 3, 1, 6, 1, 9, 1);
        e.tones(x, 2, 1, 3, 2, 3, 1, 1);
        e.tones(x, 5, 1, 1, 2, 1);
        e.tones(x, 6, 3, 1, 6, 1, 8, 3);
        e.tones(x, 7, 1, 12);
        e.tones(x, 8, 1, 4, 1, 2);
    }

    @Says(in = "Terms", words = "(Those that are not whole: as fractions without common divisors.)")
    static void widestFractions(Edges e) {
        WornRings x = new WornRings();
        x.shaft(0, 199, 200);
        x.shaft(1, 197, 200);
        x.shaft(2, 193, 200);
        x.ring(3, 29, 99, 100);
        x.ring(3, 29, 1, 100);
        long above = 199L * 197 * 193;
        long below = 8000000;
        e.tones(x, 3, above, below, above, below / 2, 3 * above, below);
        e.tones(x, 10, 199 * above, 19800 * below, 199 * above, 9900 * below);
        e.tones(x, 14, 9999 * above, 200 * below, 9999 * above, 100 * below);
    }
}
