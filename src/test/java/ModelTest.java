import java.lang.reflect.InvocationTargetException;
import java.lang.reflect.Method;
import java.util.Arrays;
import java.util.Comparator;
import java.util.HashMap;
import java.util.Map;
import java.util.Random;

/**
 * Long runs of calls, the same each time, on the class and on PlainModel: every answer is held
 * against the other's. A call that throws or answers otherwise is told with its run and its place.
 */
public final class ModelTest {
    private static final int RUNS = 900;
    private static final int CALLS = 512;
    private static final int[] ODD = {Integer.MIN_VALUE, -1000001, -30001, -2, -1, 0, 1, 2, 3, 4, 5, 12, 13, 31, 32,
        33, 40, 41, 60, 100, 101, 120, 199, 200, 201, 1000, 1001, 10000, 10001, 30001, 1000000, 1000001, Integer.MAX_VALUE};
    private static final String[][] THEMES = {
        {"shaft", "ring", "speed", "parts", "part", "tone"},
        {"mark", "mark", "mark", "mark", "unmark", "turns", "turn", "turn"},
        {"mark", "mark", "unmark", "sheet", "drop", "item", "item", "item", "item", "item", "item", "cut", "cut", "mean", "strength"},
        {"shaft", "ring", "ring", "line", "line", "line", "line", "line", "unline", "slip", "explains", "named", "heap", "heap", "strange"},
        {"laws", "reading", "reading", "reading", "reading", "reading", "reading", "reading", "baseline", "warned", "warned", "repair"}};

    private final Due due;
    private final Random random;
    private final WornRings real = new WornRings();
    private final PlainModel plain = new PlainModel();
    private final Map<String, Method[]> pairs;
    private final int number;
    private int clock = 0;
    private int usual = 10;

    private ModelTest(Due due, int number, Map<String, Method[]> pairs) {
        this.due = due;
        this.number = number;
        this.pairs = pairs;
        this.random = new Random(number);
    }

    public static void main(String[] args) throws ReflectiveOperationException {
        Due due = new Due();
        Map<String, Method[]> pairs = pairs();
        for (int i = 0; i < RUNS; i++) {
            new ModelTest(due, i, pairs).run();
        }
        due.end();
    }

    private static Map<String, Method[]> pairs() throws ReflectiveOperationException {
        Map<String, Method[]> pairs = new HashMap<>();
        for (Method m : WornRings.class.getDeclaredMethods()) {
            if (java.lang.reflect.Modifier.isPublic(m.getModifiers())) {
                pairs.put(m.getName(), new Method[] {m, PlainModel.class.getMethod(m.getName(), m.getParameterTypes())});
            }
        }
        return pairs;
    }

    private void run() throws ReflectiveOperationException {
        String[] all = pairs.keySet().stream().sorted(Comparator.naturalOrder()).toArray(String[]::new);
        for (int i = 0; i < CALLS; i++) {
            String[] theme = THEMES[number % THEMES.length];
            String[] from = random.nextInt(20) == 0 ? all : theme;
            String name = from[random.nextInt(from.length)];
            // What empties a row comes seldom, or the rows would never fill.
            if (name.startsWith("un") || name.equals("repair") || name.equals("drop")) {
                name = random.nextInt(8) == 0 ? name : theme[random.nextInt(theme.length)];
            }
            call(i, name, arguments(name));
        }
    }

    private void call(int at, String name, Object[] arguments) throws ReflectiveOperationException {
        Method[] pair = pairs.get(name);
        String told = "run " + number + ", call " + at + ": " + name + Arrays.toString(arguments);
        long want = ((Number) pair[1].invoke(plain, arguments)).longValue();
        try {
            due.is(told, ((Number) pair[0].invoke(real, arguments)).longValue(), want);
        } catch (InvocationTargetException thrown) {
            due.holds(told + " threw " + thrown.getCause(), false);
        }
    }

    private Object[] arguments(String name) {
        int[] given = fitting(name);
        if (given.length > 0 && random.nextInt(25) == 0) {
            given[random.nextInt(given.length)] = ODD[random.nextInt(ODD.length)];
        }
        return Arrays.stream(given).boxed().toArray();
    }

    private int from(int least, int most) {
        return least + random.nextInt(most - least + 1);
    }

    private int[] fitting(String name) {
        switch (name) {
            case "shaft": return new int[] {from(0, plain.parts() > 4 ? 1 : 0), from(5, 200), teeth()};
            case "ring": return ring();
            case "speed": return new int[] {from(0, 3), from(0, 1)};
            case "part": return new int[] {from(0, plain.parts()), from(0, 2)};
            case "tone": return new int[] {from(0, plain.parts()), from(0, 2), from(0, 1)};
            case "mark": return new int[] {nextTime()};
            case "turn": return new int[] {from(-1, plain.turns())};
            case "sheet": return sheet();
            case "drop": return new int[] {from(0, 1)};
            case "item": return item();
            case "cut": return new int[] {from(0, 1), from(0, Math.max(0, plain.turns() - 1)), from(1, from(0, 3) == 0 ? 40 : 4)};
            case "mean": return new int[] {from(0, 31)};
            case "strength": return new int[] {from(0, 16)};
            case "line": return line();
            case "slip": return new int[] {from(0, 2) == 0 ? 0 : from(0, 100)};
            case "explains":
            case "named": return new int[] {from(0, plain.parts())};
            case "heap": return new int[] {from(-1, 3)};
            case "laws": return laws();
            case "reading": return new int[] {from(0, 2), from(0, 40) == 0 ? from(0, 1000000) : from(90, 150)};
            case "baseline":
            case "warned": return new int[] {from(0, 3)};
            default: return new int[0];
        }
    }

    private int teeth() {
        return from(0, 1) == 0 ? from(5, 200) : 10 * from(1, 4);
    }

    /** Mostly few sizes, so that RINGS share TONES and THE HEAP has to choose. */
    private int[] ring() {
        int shaft = from(0, 3);
        if (from(0, 2) > 0) {
            return new int[] {shaft == 3 ? 1 : 0, 4 * from(1, 3), from(1, 2), from(2, 4)};
        }
        int q = from(2, 100);
        return new int[] {shaft, from(3, 30), from(1, q), q};
    }

    private int nextTime() {
        if (from(0, 60) == 0) {
            usual = from(1, from(0, 3) == 0 ? 5000 : 40);
        }
        if (plain.turns() == 0) {
            clock = from(0, 5);
            return clock;
        }
        int ways = from(0, 4) == 0 ? from(1, 6) : 1;
        clock += Math.max(1, ways * usual + from(-usual / 3, usual / 2 + 1));
        return clock;
    }

    private int step() {
        return from(0, 3) == 0 ? from(1, 1000) : from(1, 40);
    }

    private int[] sheet() {
        int sheet = from(0, 1);
        if (plain.turns() > 1 && from(0, 1) == 0) {
            return endingNear(sheet, plain.turn(from(1, Math.min(plain.turns() - 1, 12))));
        }
        return new int[] {sheet, lane(sheet), from(0, 3) == 0 ? from(0, 200) : 200, step()};
    }

    /** Heard to a TURN's end, or one time less or more, where cut is only just taken or refused. */
    private int[] endingNear(int sheet, int time) {
        int heard = Math.max(0, time + from(-1, 1));
        int step = Math.max(1, (heard + 198) / 199);
        while (step < heard && heard % step != 0) {
            step++;
        }
        return new int[] {sheet, lane(sheet), heard / step + 1, Math.min(step, 1000)};
    }

    /** Mostly one LANE for each SHEET of a run, so that items are not mostly refused. */
    private int lane(int sheet) {
        return from(0, 9) == 0 ? from(0, 2) : (number + sheet) % 3;
    }

    private int[] item() {
        int v = from(0, 2) == 0 ? from(-30000, 30000) : from(-130, 130);
        int sheet = from(0, 1);
        return new int[] {sheet, lane(sheet), from(0, 3) == 0 ? from(-1, 200) : from(0, 30), v};
    }

    /** A TONE of some PART, sometimes at the very edge of the slip, sometimes just beyond. */
    private int[] line() {
        int part = from(0, plain.parts() - 1);
        int i = from(0, plain.part(part, 2) - 1);
        long above = plain.tone(part, i, 0);
        long below = plain.tone(part, i, 1);
        if (from(0, 2) == 0) {
            int slip = plain.slip(0);
            plain.slip(slip);
            int e = slip * (from(0, 1) == 0 ? 1 : -1) + (from(0, 3) == 0 ? from(-1, 1) : 0);
            above *= 1000 + e;
            below *= 1000;
            long common = java.math.BigInteger.valueOf(above).gcd(java.math.BigInteger.valueOf(below)).longValue();
            above /= common;
            below /= common;
        }
        while (above > 10000 || below > 10000) {
            above = Math.max(1, above / 2);
            below = Math.max(1, below / 2);
        }
        return new int[] {(int) above, (int) below};
    }

    private int[] laws() {
        int a = from(90, 160);
        return new int[] {a, from(80, a), from(1, 4)};
    }
}
