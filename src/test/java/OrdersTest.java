/** Promises 25 to 30. */
public final class OrdersTest {
    public static void main(String[] args) {
        needsAnEvening();
        states();
        statesDiffer();
        mostStates();
        noCuesLeft();
        orderAt();
        stuck();
        presentCounts();
        Check.finish("OrdersTest");
    }

    private static Theatrehouse empty() {
        Theatrehouse x = Houses.withPeople(2);
        x.addMachine(0, 9);
        x.addMachine(1, 9);
        x.addWork(2, 1);
        x.setRole(0, 1, 1);
        return x;
    }

    private static void refuses(Theatrehouse x, Class<?> due) {
        Check.due(due, "states", () -> x.states());
        Check.due(due, "hasOrder", () -> x.hasOrder());
        Check.due(due, "orderAt", () -> x.orderAt(0));
        Check.due(due, "orderAt no such index", () -> x.orderAt(-1));
        Check.due(due, "farthest", () -> x.farthest());
        Check.due(due, "stuck", () -> x.stuck());
        Check.due(due, "orders", () -> x.orders());
    }

    private static void needsAnEvening() {
        Theatrehouse x = empty();
        refuses(x, Check.STATE);
        Houses.open(x);
        Check.due(1, "states", () -> x.states());
        x.end();
        refuses(x, Check.STATE);
    }

    private static void states() {
        Theatrehouse x = empty();
        x.addCue(0, 'c', 0, 0, 1, 0);
        x.addCue(0, 'c', 1, 0, 1, 0);
        x.addCue(0, 'c', 2, 0, 1, 3);
        Houses.open(x);
        Check.due(5, "two free cues and one behind both", () -> x.states());
        Check.due(2L, "orders", () -> x.orders());
        x.perform(1);
        Check.due(3, "the present one included", () -> x.states());
        Check.due(1L, "one order", () -> x.orders());
        Check.due(0, "it begins with 0", () -> x.orderAt(0));
        x.takeBack();
        Check.due(5, "taken back", () -> x.states());
        Check.due(3, "farthest", () -> x.farthest());
    }

    /** Two rows of the same cues count as two states where what stands behind them differs, and once where not. */
    private static void statesDiffer() {
        Theatrehouse lights = empty();
        lights.addCue(0, 'l', 4, 1, 1, 0);
        lights.addCue(0, 'l', 4, 2, 1, 0);
        Houses.open(lights);
        Check.due(5, "lights differ", () -> lights.states());

        Theatrehouse other = empty();
        other.addCue(0, 'l', 4, 1, 1, 0);
        other.addCue(0, 'l', 3, 2, 1, 0);
        Houses.open(other);
        Check.due(4, "lights of two zones", () -> other.states());

        Theatrehouse places = empty();
        places.addCue(0, 'm', 1, 7, 1, 0);
        places.addCue(0, 'm', 1, 5, 1, 0);
        Houses.open(places);
        Check.due(5, "places differ", () -> places.states());

        Theatrehouse zones = empty();
        zones.addCue(0, 'e', 1, 4, 1, 0);
        zones.addCue(0, 'g', 1, 2, 1, 1);
        zones.addCue(0, 'g', 1, 3, 1, 1);
        Houses.open(zones);
        Check.due(6, "zones differ", () -> zones.states());

        Theatrehouse clear = empty();
        clear.addCue(0, 'e', 1, 4, 1, 0);
        clear.addCue(0, 'c', 4, 0, 1, 0);
        Houses.open(clear);
        Check.due(5, "told clear or not", () -> clear.states());

        Theatrehouse off = empty();
        off.addCue(0, 'e', 1, 4, 1, 0);
        off.addCue(0, 'x', 1, 0, 1, 1);
        off.addCue(0, 'c', 4, 0, 1, 1);
        Houses.open(off);
        Check.due(5, "who has left is not told clear", () -> off.states());

        Theatrehouse songs = empty();
        songs.addCue(0, 'e', 0, 4, 1, 0);
        songs.addCue(0, 'e', 1, 4, 1, 0);
        songs.addCue(0, 'l', 4, 1, 1, 0);
        songs.addCue(0, 's', 0, 20, 1, 0);
        songs.addCue(0, 's', 0, 10, 1, 0);
        songs.addCue(0, 's', 1, 21, 1, 0);
        Houses.open(songs);
        Houses.perform(songs, 0, 1, 2);
        Check.due(6, "songs that a voice is enough for", () -> songs.states());
        Check.due(3, "the one that is stuck", () -> {
            songs.perform(4);
            return songs.stuck();
        });
    }

    private static void mostStates() {
        Theatrehouse x = empty();
        x.addCue(0, 'l', 0, 1, 1, 0);
        x.addCue(0, 'l', 0, 2, 1, 0);
        x.addCue(0, 'l', 1, 1, 1, 0);
        x.addCue(0, 'l', 1, 2, 1, 0);
        x.addCue(0, 'c', 0, 0, 1, 0);
        x.addCue(0, 'c', 0, 0, 1, 16);
        x.addCue(0, 'c', 0, 0, 1, 0);
        x.addCue(0, 'c', 0, 0, 1, 0);
        Houses.open(x);
        Check.due(300, "just 300: 5 and 5 of lights, 3 and 2 and 2", () -> x.states());
        Check.due(true, "hasOrder", () -> x.hasOrder());
        Check.due(20160L, "half of 8!", () -> x.orders());
        Check.due(7, "the last of the first order", () -> x.orderAt(7));
        Check.due(8, "farthest", () -> x.farthest());

        Theatrehouse more = empty();
        int[][] rows = {{0, 2, 0, 0}, {0, 1, 0, 0}, {1, 0, 3, 0}, {1, 0, 2, 5}, {1, 0, 2, 0}, {0, 1, 0, 16},
            {1, 2, 3, 2}, {1, 0, 0, 0}, {1, 2, 1, 0}};
        for (int[] row : rows) {
            more.addCue(0, row[0] == 0 ? 'c' : 'l', row[1], row[2], 1, row[3]);
        }
        Houses.open(more);
        refuses(more, Check.UNSUPPORTED);
        Check.due(true, "nothing is told, so nothing is wrong", () -> more.isConsistent());
        more.perform(0);
        Check.due(true, "fewer than 301 are left", () -> more.states() < 301);
        more.takeBack();
        refuses(more, Check.UNSUPPORTED);

        Theatrehouse nine = empty();
        for (int i = 0; i < 9; i++) {
            nine.addCue(0, 'c', 0, 0, 1, 0);
        }
        Houses.open(nine);
        refuses(nine, Check.UNSUPPORTED);
        nine.perform(8);
        Check.due(256, "eight free cues", () -> nine.states());
        Check.due(40320L, "8! orders", () -> nine.orders());
        Check.due(0, "the first order", () -> nine.orderAt(0));
    }

    private static void noCuesLeft() {
        Theatrehouse x = empty();
        x.addCue(0, 'c', 0, 0, 1, 0);
        Houses.open(x);
        x.perform(0);
        Check.due(1, "the present one alone", () -> x.states());
        Check.due(true, "the order without cues", () -> x.hasOrder());
        Check.due(1L, "it is one", () -> x.orders());
        Check.due(0, "farthest", () -> x.farthest());
        Check.due(Check.ELEMENT, "it has no index", () -> x.orderAt(0));
        Check.due(Check.ELEMENT, "nothing is stuck", () -> x.stuck());
    }

    private static void orderAt() {
        Theatrehouse x = empty();
        x.addCue(0, 'e', 0, 0, 1, 0);
        x.addCue(0, 'm', 0, 3, 1, 0);
        x.addCue(0, 'l', 0, 3, 1, 0);
        Houses.open(x);
        Check.due(true, "hasOrder", () -> x.hasOrder());
        Check.due(3L, "the machine moves first", () -> x.orders());
        int[] first = {1, 0, 2};
        for (int i = 0; i < 3; i++) {
            int index = i;
            Check.due(first[i], "index " + i, () -> x.orderAt(index));
        }
        Check.due(Check.ELEMENT, "index above", () -> x.orderAt(3));
        Check.due(Check.ELEMENT, "index below", () -> x.orderAt(-1));
        Check.due(Check.ELEMENT, "nothing is stuck", () -> x.stuck());
        x.perform(2);
        Check.due(1, "from where the evening is", () -> x.orderAt(0));
        Check.due(Check.ELEMENT, "one index less", () -> x.orderAt(2));
        x.perform(0);
        Check.due(false, "somebody in the zone was not told", () -> x.hasOrder());
        Check.due(0L, "no orders", () -> x.orders());
        Check.due(Check.ELEMENT, "no order", () -> x.orderAt(0));
        Check.due(0, "farthest", () -> x.farthest());
        Check.due(1, "stuck", () -> x.stuck());
    }

    private static void stuck() {
        Theatrehouse x = empty();
        x.addCue(0, 'e', 0, 0, 1, 0);
        x.addCue(0, 'm', 0, 1, 1, 0);
        x.addCue(0, 'm', 0, 2, 1, 2);
        x.addCue(0, 'l', 0, 1, 1, 0);
        x.addCue(0, 'l', 0, 1, 1, 0);
        Houses.open(x);
        Check.due(4, "farthest: 1 2 0 3 and others", () -> x.farthest());
        Check.due(4, "left behind the first one of the longest", () -> x.stuck());
        Check.due(Check.ELEMENT, "no order", () -> x.orderAt(0));
        x.perform(0);
        Check.due(1, "farthest behind 0", () -> x.farthest());
        Check.due(1, "the lowest of 1, 2 and 4", () -> x.stuck());
        x.takeBack();
        x.perform(4);
        Check.due(3, "farthest behind 4", () -> x.farthest());
        Check.due(3, "stuck behind 4", () -> x.stuck());

        Theatrehouse ill = empty();
        ill.addCue(0, 'c', 0, 0, 1, 0);
        ill.addCue(0, 'e', 1, 0, 1, 0);
        ill.fallIll(1, 1);
        Houses.open(ill);
        Check.due(1, "a role without a singer", () -> ill.stuck());
        Check.due(2, "its states", () -> ill.states());

        Theatrehouse dark = empty();
        dark.addCue(0, 'l', 0, 0, 1, 0);
        dark.addCue(0, 'c', 0, 0, 1, 0);
        Houses.open(dark);
        Check.due(0, "the first cue is stuck", () -> dark.stuck());
    }

    /** What is told of orders is told of each evening and each moment anew. */
    private static void presentCounts() {
        Theatrehouse x = empty();
        x.addCue(0, 'e', 0, 0, 1, 0);
        x.addWork(1, 1);
        x.addCue(1, 'l', 0, 1, 1, 0);
        x.addCue(1, 'l', 0, 1, 1, 0);
        Houses.open(x);
        Check.due(true, "the first work", () -> x.hasOrder());
        x.end();
        x.fallIll(0, 9);
        x.pass(1);
        Houses.open(x);
        Check.due(false, "the same work without its singer", () -> x.hasOrder());
        x.end();
        x.pass(1);
        x.plan(1, 2);
        x.begin();
        Check.due(3, "another work", () -> x.states());
        Check.due(1, "its stuck cue", () -> x.stuck());
        x.fallIll(0, 0);
        Check.due(3, "an evening that is on is not touched", () -> x.states());
        x.end();
        x.pass(1);
        Houses.open(x);
        Check.due(true, "well again", () -> x.hasOrder());
    }
}
