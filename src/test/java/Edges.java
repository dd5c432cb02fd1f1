import java.lang.reflect.InvocationTargetException;
import java.lang.reflect.Method;
import java.util.ArrayList;
import java.util.Arrays;
import java.util.Comparator;
import java.util.List;
import java.util.function.IntToLongFunction;

/** Runs the methods of a test that bear Says, each under the words of the document that it holds. */
final class Edges {
    private final Due due = new Due();
    private String about = "";

    /** Every class whose tests are told by sentences: SentencesTest holds them against the document. */
    static final List<Class<?>> TESTS = List.of(TermsEdgesTest.class, PartsEdgesTest.class, MarksEdgesTest.class,
        SoundsEdgesTest.class, LinesEdgesTest.class, ReadingsEdgesTest.class);

    static List<Method> methodsOf(Class<?> test) {
        List<Method> found = new ArrayList<>();
        for (Method m : test.getDeclaredMethods()) {
            if (m.isAnnotationPresent(Says.class)) {
                found.add(m);
            }
        }
        found.sort(Comparator.comparing(Method::getName));
        return found;
    }

    static void run(Class<?> test) throws IllegalAccessException {
        Edges edges = new Edges();
        List<Method> methods = methodsOf(test);
        for (Method m : methods) {
            Says says = m.getAnnotation(Says.class);
            edges.about = m.getName() + ", " + says.in() + " (" + says.words() + "): ";
            try {
                m.invoke(null, edges);
            } catch (InvocationTargetException thrown) {
                edges.holds("threw " + thrown.getCause(), false);
            }
        }
        System.out.println(methods.size() + " sentences");
        edges.due.end();
    }

    void is(String call, long got, long want) {
        due.is(about + call, got, want);
    }

    void holds(String what, boolean truth) {
        due.holds(about + what, truth);
    }

    /** The answers of a row of questions, in their order. */
    void are(String what, IntToLongFunction question, long... want) {
        for (int i = 0; i < want.length; i++) {
            is(what + " " + i, question.applyAsLong(i), want[i]);
        }
    }

    /** What is taken is answered by a number that is no refusal. */
    void taken(String call, long got) {
        holds(call + " is taken, not " + got, got >= 0);
    }

    /** The last number that is taken on each side, the first that is refused there, and the farthest. */
    void range(String name, int least, int most, long refusal, IntToLongFunction call) {
        from(name, least, refusal, call);
        upTo(name, most, refusal, call);
    }

    void from(String name, int least, long refusal, IntToLongFunction call) {
        taken(name + " " + least, call.applyAsLong(least));
        is(name + " " + (least - 1), call.applyAsLong(least - 1), refusal);
        is(name + " far below", call.applyAsLong(Integer.MIN_VALUE), refusal);
    }

    void upTo(String name, int most, long refusal, IntToLongFunction call) {
        taken(name + " " + most, call.applyAsLong(most));
        is(name + " " + (most + 1), call.applyAsLong(most + 1), refusal);
        is(name + " far above", call.applyAsLong(Integer.MAX_VALUE), refusal);
    }

    /** TONES of a PART, as fractions one behind the other: above, below, above, below .. */
    void tones(WornRings x, int part, long... want) {
        is("TONES of PART " + part, x.part(part, 2), want.length / 2);
        for (int i = 0; i < want.length; i++) {
            is("TONE " + i / 2 + (i % 2 == 0 ? " above" : " below") + " of PART " + part,
                x.tone(part, i / 2, i % 2), want[i]);
        }
    }

    void speed(WornRings x, int shaft, long above, long below) {
        is("SPEED above of " + shaft, x.speed(shaft, 0), above);
        is("SPEED below of " + shaft, x.speed(shaft, 1), below);
    }

    void mended(WornRings x, int... want) {
        is("turns() of " + Arrays.toString(want), x.turns(), want.length);
        for (int i = 0; i < want.length; i++) {
            is("turn(" + i + ") of " + Arrays.toString(want), x.turn(i), want[i]);
        }
        is("turn behind the last of " + Arrays.toString(want), x.turn(want.length), WornRings.BAD);
    }

    void heap(WornRings x, int... want) {
        is("heap(-1)", x.heap(-1), want.length);
        for (int i = 0; i < want.length; i++) {
            is("heap(" + i + ")", x.heap(i), want[i]);
        }
        is("heap behind the last", x.heap(want.length), WornRings.BAD);
    }
}
