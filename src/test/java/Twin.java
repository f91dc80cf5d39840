import java.util.HashMap;
import java.util.Map;

/** Refused calls, each held against a house of the same making on which the call was never tried. */
final class Twin {
    interface House {
        Theatrehouse make();
    }

    interface Ask {
        Object of(Theatrehouse x);
    }

    private static final Map<House, String[]> UNTOUCHED = new HashMap<>();

    private Twin() {
    }

    /** The call throws this exception, and the calls behind it answer as if it had never been tried. */
    static void refused(Class<?> due, String what, House house, Ask call) {
        String[] untouched = UNTOUCHED.computeIfAbsent(house, Twin::probeAll);
        for (int i = 0; i < Probe.PARTS; i++) {
            int part = i;
            Theatrehouse x = house.make();
            Check.due(due, what, () -> call.of(x));
            Check.due("", what + ", and then something is changed",
                () -> firstDifference(untouched[part], Probe.part(part, x)));
        }
    }

    /** The call on a house of its own. */
    static void due(Object due, String what, House house, Ask call) {
        Theatrehouse x = house.make();
        Check.due(due, what, () -> call.of(x));
    }

    private static String[] probeAll(House house) {
        String[] all = new String[Probe.PARTS];
        for (int part = 0; part < Probe.PARTS; part++) {
            all[part] = Probe.part(part, house.make());
        }
        return all;
    }

    private static String firstDifference(String want, String got) {
        String[] wanted = want.split("\n");
        String[] gotten = got.split("\n");
        for (int i = 0; i < Math.max(wanted.length, gotten.length); i++) {
            String due = i < wanted.length ? wanted[i] : "no call";
            String is = i < gotten.length ? gotten[i] : "no call";
            if (!due.equals(is)) {
                return is + " in place of " + due;
            }
        }
        return "";
    }
}
