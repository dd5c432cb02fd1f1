import java.util.ArrayList;
import java.util.List;

/**
 * Two objects with the same past. One of them is asked what is refused; then all that can be seen of
 * both must be the same. A look changes what it looks at, so each look has twins of its own.
 */
final class Twins {
    /** Calls, one behind the other, on an object. */
    interface Past {
        void of(Asked x);
    }

    private interface Look {
        void at(Asked x, List<Long> seen);
    }

    private static final List<Look> LOOKS = List.of(Twins::parts, Twins::moreParts, Twins::marks, Twins::mean,
        (x, seen) -> sheet(x, 0, seen), (x, seen) -> sheet(x, 1, seen),
        (x, seen) -> sheet(x, 2, seen), (x, seen) -> sheet(x, 3, seen),
        Twins::lines, Twins::readings, Twins::laws);

    private Twins() {
    }

    static void stay(Edges e, String past, Past calls, long refusal, String name, int... arguments) {
        String told = past + ", " + name + java.util.Arrays.toString(arguments);
        for (int i = 0; i < LOOKS.size(); i++) {
            Asked one = new Asked();
            Asked other = new Asked();
            calls.of(one);
            calls.of(other);
            e.is(told, one.ask(name, arguments), refusal);
            List<Long> changed = new ArrayList<>();
            List<Long> unchanged = new ArrayList<>();
            LOOKS.get(i).at(one, changed);
            LOOKS.get(i).at(other, unchanged);
            e.holds(told + " changes nothing, look " + i, changed.equals(unchanged));
        }
    }

    private static void parts(Asked x, List<Long> seen) {
        long parts = x.ask("parts");
        seen.add(parts);
        for (int shaft = 0; shaft < 4; shaft++) {
            seen.add(x.ask("speed", shaft, 0));
            seen.add(x.ask("speed", shaft, 1));
        }
        for (int part = 0; part < parts; part++) {
            seen.add(x.ask("part", part, 0));
            seen.add(x.ask("part", part, 1));
            long tones = x.ask("part", part, 2);
            for (int i = 0; i < tones; i++) {
                seen.add(x.ask("tone", part, i, 0));
                seen.add(x.ask("tone", part, i, 1));
            }
        }
    }

    private static void moreParts(Asked x, List<Long> seen) {
        seen.add(x.ask("ring", 0, 7, 2, 9));
        seen.add(x.ask("shaft", 0, 7, 11));
        parts(x, seen);
    }

    private static void marks(Asked x, List<Long> seen) {
        long turns = x.ask("turns");
        seen.add(turns);
        for (int i = 0; i < turns; i++) {
            seen.add(x.ask("turn", i));
        }
        for (int time = 0; time < 1000; time += 50) {
            seen.add(x.ask("mark", time));
        }
        seen.add(x.ask("turns"));
        seen.add(x.ask("unmark"));
    }

    private static void mean(Asked x, List<Long> seen) {
        for (int j = 0; j < 32; j++) {
            seen.add(x.ask("mean", j));
        }
        for (int k = 0; k <= 16; k++) {
            seen.add(x.ask("strength", k));
        }
    }

    /** TURNS of several lengths show items, step and length; items show the LANE. */
    private static void sheet(Asked x, int sheet, List<Long> seen) {
        for (int length = 32; length <= 3200; length *= 10) {
            x.ask("unmark");
            x.ask("mark", 0);
            x.ask("mark", length);
            seen.add(x.ask("cut", sheet, 0, 1));
            mean(x, seen);
        }
        for (int lane = 0; lane < 3; lane++) {
            seen.add(x.ask("item", sheet, lane, 0, 0));
        }
        seen.add(x.ask("drop", sheet));
    }

    private static void lines(Asked x, List<Long> seen) {
        long parts = x.ask("parts");
        for (int part = 0; part < parts; part++) {
            seen.add(x.ask("explains", part));
            seen.add(x.ask("named", part));
        }
        seen.add(x.ask("strange"));
        for (int i = -1; i < 5; i++) {
            seen.add(x.ask("heap", i));
        }
        seen.add(x.ask("slip", 0));
        seen.add(x.ask("strange"));
        seen.add(x.ask("line", 7, 3));
        seen.add(x.ask("unline"));
    }

    private static void readings(Asked x, List<Long> seen) {
        for (int load = 0; load < 4; load++) {
            seen.add(x.ask("baseline", load));
            seen.add(x.ask("warned", load));
            for (int i = 0; i < 6; i++) {
                seen.add(x.ask("reading", load, 10000));
                seen.add(x.ask("warned", load));
            }
        }
        seen.add(x.ask("repair"));
    }

    /** READINGS behind a BASELINE of 100, up and down: where warnings come and go tells the laws. */
    private static void laws(Asked x, List<Long> seen) {
        seen.add(x.ask("repair"));
        for (int i = 0; i < 5; i++) {
            x.ask("reading", 0, 100);
        }
        for (int v = 100; v <= 160; v++) {
            x.ask("reading", 0, v);
            seen.add(x.ask("warned", 0));
        }
        for (int v = 160; v >= 100; v--) {
            x.ask("reading", 0, v);
            seen.add(x.ask("warned", 0));
        }
    }
}
