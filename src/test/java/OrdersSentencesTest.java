/** Promises 25 to 30, sentence by sentence. */
public final class OrdersSentencesTest {
    private static final int MIN = Houses.MIN;
    private static final int MAX = Houses.MAX;

    private static final String STATES_299 =
        "e2,0,0 e1,1,0 c1,0,0 s1,15,0 e0,1,0 g2,1,4 l1,2,0 c0,0,0 x0,0,0";
    static final String STATES_300 =
        "e1,0,0 m0,1,0 c1,0,0 e0,1,0 m1,1,0 c1,0,0 m0,2,0 x0,0,0 s2,3,4";
    static final String STATES_301 =
        "l0,2,0 e2,0,1 e0,0,0 s1,8,0 l0,0,0 e1,0,0 c0,0,0 e1,0,0 g1,1,64";
    private static final String STATES_302 =
        "c1,0,0 c1,0,0 m0,1,0 l1,1,0 l1,0,0 c1,0,2 c1,0,0 e0,1,0 s0,12,0";

    public static void main(String[] args) throws ReflectiveOperationException {
        Sentences.run(OrdersSentencesTest.class);
    }

    /** Three people of a voice of 20 with a role each, machines over the zones 0 and 1, and cues: kind a,b,needs. */
    static Theatrehouse staged(int limit0, int limit1, String cues) {
        Theatrehouse x = new Theatrehouse();
        for (int i = 0; i < 3; i++) {
            x.addPerson(1, 20);
        }
        x.addMachine(0, limit0);
        x.addMachine(1, limit1);
        x.addWork(3, 1);
        for (int i = 0; i < 3; i++) {
            x.setRole(0, i, i);
        }
        if (!cues.isEmpty()) {
            for (String cue : cues.split(" ")) {
                String[] numbers = cue.substring(1).split(",");
                x.addCue(0, cue.charAt(0), Integer.parseInt(numbers[0]), Integer.parseInt(numbers[1]), 1,
                    Integer.parseInt(numbers[2]));
            }
        }
        x.plan(0, 0);
        return x;
    }

    private static Theatrehouse on(int limit0, int limit1, String cues, int... done) {
        Theatrehouse x = staged(limit0, limit1, cues);
        x.begin();
        Houses.perform(x, done);
        return x;
    }

    /** Who enters, a machine that moves over the same zone, but over nobody, and a light that is free. */
    private static Theatrehouse small(int... done) {
        return on(0, 9, "e0,0,0 m0,1,0 l0,1,0", done);
    }

    /** The calls that need an evening, without one. */
    private static void needsAnEvening(Twin.Ask call) {
        Twin.refused(Check.STATE, "a new house", Houses.NEW, call);
        Twin.refused(Check.STATE, "planned for today", Houses.RICH, call);
        Twin.refused(Check.STATE, "it has ended", () -> {
            Theatrehouse x = small(2);
            x.states();
            x.end();
            return x;
        }, call);
        Twin.refused(Check.STATE, "it has ended, with too many states", () -> {
            Theatrehouse x = on(0, 1, STATES_301);
            x.end();
            return x;
        }, call);
    }

    /** The calls that tell of orders, where 300 states can come up, and where more can. */
    private static void needsFewStates(Twin.Ask call) {
        Twin.refused(Check.UNSUPPORTED, "301 states", () -> on(0, 1, STATES_301), call);
        Twin.refused(Check.UNSUPPORTED, "302 states", () -> on(1, 0, STATES_302), call);
        Twin.refused(Check.UNSUPPORTED, "512 states", () -> nineFree(), call);
        Twin.refused(Check.UNSUPPORTED, "301 states again, a cue being taken back", () -> {
            Theatrehouse x = on(0, 1, STATES_301, 0);
            x.states();
            x.takeBack();
            return x;
        }, call);
        for (int i = 0; i < 2; i++) {
            Theatrehouse x = i == 0 ? on(2, 1, STATES_299) : on(1, 0, STATES_300);
            Object answer = Check.answer(() -> call.of(x));
            Check.due(true, (299 + i) + " states: " + answer, () -> answer != Check.UNSUPPORTED);
        }
        Theatrehouse fewer = on(0, 1, STATES_301, 0);
        Object answer = Check.answer(() -> call.of(fewer));
        Check.due(true, "fewer states are left of 301: " + answer, () -> answer != Check.UNSUPPORTED);
    }

    private static Theatrehouse nineFree(int... done) {
        Theatrehouse x = Houses.withFreeCues(9);
        x.begin();
        Houses.perform(x, done);
        return x;
    }

    /** Neither an evening nor few states: the evening is asked for first. */
    private static void eveningFirst(Twin.Ask call) {
        needsAnEvening(call);
        needsFewStates(call);
    }

    // ---- Promise 25: states.

    @Says(promise = 25, value = "Returns how many different states can come up by legal rows")
    static void promise25ReturnsHowManyStates() {
        Check.due(2, "one cue", () -> on(9, 9, "c0,0,0").states());
        Check.due(4, "two free cues: different rows, one state", () -> on(9, 9, "c0,0,0 c0,0,0").states());
        Check.due(3, "two cues, one behind the other", () -> on(9, 9, "c0,0,0 c0,0,1").states());
        Check.due(1, "a cue that can never be done", () -> on(9, 9, "x0,0,0").states());
        Check.due(2, "a cue that cannot be done", () -> on(9, 9, "c0,0,0 x0,0,1").states());
        Check.due(256, "eight free cues are left", () -> nineFree(4).states());
        Check.due(128, "seven free cues are left", () -> nineFree(4, 0).states());
        Check.due(2, "one free cue is left", () -> nineFree(0, 1, 2, 3, 4, 5, 6, 7).states());
    }

    @Says(promise = 25, value = "Returns the number of states, the present one included")
    static void promise25ThePresentOneIncluded() {
        Check.due(1, "no cues at all", () -> on(9, 9, "").states());
        Check.due(1, "all cues were done", () -> on(9, 9, "c0,0,0 c0,0,0", 1, 0).states());
        Check.due(1, "nothing can be done", () -> small(0, 2).states());
        Check.due(2, "one thing can be done", () -> small(0).states());
        Check.due(8, "all sets of three cues, one of them in one order only", () -> small().states());
    }

    @Says(promise = 25, value = "Throws `IllegalStateException` if no evening is on")
    static void promise25ThrowsIfNoEveningIsOn() {
        needsAnEvening(x -> x.states());
    }

    @Says(promise = 25, value = "Throws `UnsupportedOperationException` if there are more than 300")
    static void promise25ThrowsIfThereAreMoreThan300() {
        Check.due(299, "299", () -> on(2, 1, STATES_299).states());
        Check.due(300, "300", () -> on(1, 0, STATES_300).states());
        Check.due(300, "300 of two",
            () -> on(0, 2, "l0,1,0 e0,0,0 c1,0,2 c0,0,0 e2,1,0 c0,0,16 m1,1,0 c1,0,0").states());
        Check.due(300, "300 of three",
            () -> on(2, 2, "m0,1,0 e2,0,0 c1,0,0 m1,2,0 c1,0,0 e1,0,0 e1,1,0 m0,2,0").states());
        Twin.refused(Check.UNSUPPORTED, "301", () -> on(0, 1, STATES_301), x -> x.states());
        Twin.refused(Check.UNSUPPORTED, "301 of two",
            () -> on(0, 0, "e1,1,0 s1,6,0 l1,1,0 x2,0,0 c1,0,0 e2,1,0 c0,0,2 c0,0,0 e0,0,0"), x -> x.states());
        Twin.refused(Check.UNSUPPORTED, "302", () -> on(1, 0, STATES_302), x -> x.states());
        needsFewStates(x -> x.states());
    }

    @Says(promise = 25, value = {"Throws `IllegalStateException` if", "Throws `UnsupportedOperationException` if"})
    static void promise25ListedFirst() {
        eveningFirst(x -> x.states());
    }

    // ---- Promise 26: hasOrder.

    @Says(promise = 26, value = {"Returns whether there is an order", "Returns true if there is"})
    static void promise26ReturnsWhetherThereIsAnOrder() {
        Check.due(true, "no cues: the row of none", () -> on(9, 9, "").hasOrder());
        Check.due(true, "all cues were done", () -> on(9, 9, "c0,0,0", 0).hasOrder());
        Check.due(true, "one cue that can be done", () -> on(9, 9, "c0,0,0").hasOrder());
        Check.due(false, "one cue that cannot be done", () -> on(9, 9, "x0,0,0").hasOrder());
        Check.due(true, "only in one order", () -> small().hasOrder());
        Check.due(false, "not any more", () -> small(0).hasOrder());
        Check.due(true, "still", () -> small(1).hasOrder());
        Check.due(false, "one of nine is left over", () -> nineWithOneThatCannot().hasOrder());
        Check.due(true, "eight free cues are left", () -> nineFree(8).hasOrder());
    }

    /** Nine cues: seven in a row, one beside them, and 'x', which nobody can do. */
    private static Theatrehouse nineWithOneThatCannot() {
        return on(9, 9, "c0,0,0 c0,0,1 c0,0,2 c0,0,4 c0,0,8 c0,0,16 c0,0,32 x0,0,0 c0,0,0");
    }

    @Says(promise = 26, value = "Throws `IllegalStateException` if no evening is on")
    static void promise26ThrowsIfNoEveningIsOn() {
        needsAnEvening(x -> x.hasOrder());
    }

    @Says(promise = 26, value = "Throws `UnsupportedOperationException` if more than 300 states can come up")
    static void promise26ThrowsIfMoreThan300StatesCanComeUp() {
        needsFewStates(x -> x.hasOrder());
    }

    @Says(promise = 26, value = {"Throws `IllegalStateException` if", "Throws `UnsupportedOperationException` if"})
    static void promise26ListedFirst() {
        eveningFirst(x -> x.hasOrder());
    }

    // ---- Promise 27: orderAt.

    private static void expectOrder(String what, Theatrehouse x, int... row) {
        for (int i = 0; i < row.length; i++) {
            int index = i;
            Check.due(row[index], what + ", index " + i, () -> x.orderAt(index));
        }
        for (int index : new int[] {MIN, -1, row.length, row.length + 1, 9, 10, MAX}) {
            Check.due(Check.ELEMENT, what + ", index " + index, () -> x.orderAt(index));
        }
    }

    @Says(promise = 27, value = {"Returns a cue of the first order", "Returns the number of the cue"})
    static void promise27ReturnsACueOfTheFirstOrder() {
        expectOrder("of three", small(), 1, 0, 2);
        expectOrder("0 first", on(9, 9, "c0,0,0 c0,0,0 c0,0,0"), 0, 1, 2);
        expectOrder("the lowest number at each index", on(0, 9, "m0,1,0 e0,0,0 m1,1,0 e1,1,0"), 0, 1, 2, 3);
        expectOrder("2 ahead of 1, for 1 ahead of 2 ends nowhere", on(9, 9, "c1,0,0 e0,1,0 m1,1,0"), 0, 2, 1);
        expectOrder("a chain", on(9, 9, "c0,0,0 c0,0,1 c0,0,2 c0,0,4 c0,0,8 c0,0,16 c0,0,32 c0,0,64 c0,0,128"),
            0, 1, 2, 3, 4, 5, 6, 7, 8);
        expectOrder("from where it is", small(2), 1, 0);
        expectOrder("eight of nine", nineFree(3), 0, 1, 2, 4, 5, 6, 7, 8);
    }

    @Says(promise = 27, value = "`index`: the index, from 0")
    static void promise27IndexIsFrom0() {
        for (int index : new int[] {MIN, -2, -1, 3, 4, 8, 9, MAX}) {
            Twin.refused(Check.ELEMENT, "the index " + index, OrdersSentencesTest::small, x -> x.orderAt(index));
        }
        Twin.due(1, "the first one", OrdersSentencesTest::small, x -> x.orderAt(0));
        Twin.due(2, "the last one", OrdersSentencesTest::small, x -> x.orderAt(2));
        for (int done = 1; done < 9; done++) {
            int cues = done;
            Theatrehouse x = nineFree();
            for (int cue = 0; cue < done; cue++) {
                x.perform(cue);
            }
            Check.due(8, "the last of " + (9 - done), () -> x.orderAt(8 - cues));
            Check.due(Check.ELEMENT, "the one behind it", () -> x.orderAt(9 - cues));
        }
    }

    @Says(promise = 27, value = "Throws `IllegalStateException` if no evening is on")
    static void promise27ThrowsIfNoEveningIsOn() {
        needsAnEvening(x -> x.orderAt(0));
    }

    @Says(promise = 27, value = "Throws `UnsupportedOperationException` if more than 300 states can come up")
    static void promise27ThrowsIfMoreThan300StatesCanComeUp() {
        needsFewStates(x -> x.orderAt(0));
    }

    @Says(promise = 27, value = "Throws `NoSuchElementException` if there is no order")
    static void promise27ThrowsIfThereIsNoOrder() {
        for (int index : new int[] {MIN, -1, 0, 1, 2, MAX}) {
            Twin.refused(Check.ELEMENT, "none at the index " + index, () -> small(0), x -> x.orderAt(index));
            Twin.refused(Check.ELEMENT, "none of nine at the index " + index, () -> nineWithOneThatCannot(),
                x -> x.orderAt(index));
        }
    }

    @Says(promise = 27, value = "or no such index")
    static void promise27ThrowsIfThereIsNoSuchIndex() {
        for (int index : new int[] {MIN, -1, 0, 1, MAX}) {
            Twin.refused(Check.ELEMENT, "no cues, the index " + index, () -> on(9, 9, ""), x -> x.orderAt(index));
            Twin.refused(Check.ELEMENT, "none left, the index " + index, () -> on(9, 9, "c0,0,0", 0),
                x -> x.orderAt(index));
        }
    }

    @Says(promise = 27, value = {"Throws `IllegalStateException` if", "Throws `UnsupportedOperationException` if",
        "Throws `NoSuchElementException` if"})
    static void promise27ListedFirst() {
        for (int index : new int[] {MIN, -1, 9, MAX}) {
            eveningFirst(x -> x.orderAt(index));
        }
        for (int index : new int[] {MIN, -1, 0, 9, MAX}) {
            Twin.refused(Check.UNSUPPORTED, "too many states, and no order at " + index, () -> lightsBeside(),
                x -> x.orderAt(index));
        }
    }

    /** More than 300 states, and no order: nobody can do the last cue. */
    private static Theatrehouse lightsBeside() {
        return on(9, 9, "l0,1,0 l0,2,0 l1,1,0 l1,2,0 c0,0,0 c0,0,0 c0,0,0 c0,0,0 x0,0,0");
    }

    // ---- Promise 28: farthest.

    @Says(promise = 28, value = {"Returns the length of the longest legal row", "Returns the number of cues"})
    static void promise28ReturnsTheLengthOfTheLongestRow() {
        Check.due(0, "no cues", () -> on(9, 9, "").farthest());
        Check.due(0, "nothing can be done", () -> on(9, 9, "x0,0,0").farthest());
        Check.due(0, "all was done", () -> on(9, 9, "c0,0,0 c0,0,0", 1, 0).farthest());
        Check.due(1, "one can be done", () -> on(9, 9, "x0,0,0 c0,0,0").farthest());
        Check.due(3, "all of three", () -> small().farthest());
        Check.due(1, "one of the two that are left", () -> small(0).farthest());
        Check.due(8, "eight of nine", () -> nineWithOneThatCannot().farthest());
        Check.due(9, "all nine",
            () -> on(9, 9, "c0,0,0 c0,0,1 c0,0,2 c0,0,4 c0,0,8 c0,0,16 c0,0,32 c0,0,64 c0,0,0").farthest());
        for (int done = 1; done <= 9; done++) {
            int cues = done;
            Theatrehouse x = nineFree();
            for (int cue = 8; cue > 8 - done; cue--) {
                x.perform(cue);
            }
            Check.due(9 - cues, "from where it is, " + done + " being done", () -> x.farthest());
        }
    }

    @Says(promise = 28, value = "Throws `IllegalStateException` if no evening is on")
    static void promise28ThrowsIfNoEveningIsOn() {
        needsAnEvening(x -> x.farthest());
    }

    @Says(promise = 28, value = "Throws `UnsupportedOperationException` if more than 300 states can come up")
    static void promise28ThrowsIfMoreThan300StatesCanComeUp() {
        needsFewStates(x -> x.farthest());
    }

    @Says(promise = 28, value = {"Throws `IllegalStateException` if", "Throws `UnsupportedOperationException` if"})
    static void promise28ListedFirst() {
        eveningFirst(x -> x.farthest());
    }

    // ---- Promise 29: stuck.

    @Says(promise = 29, value = "Returns the cue that cannot be done: of the longest legal rows, the first one")
    static void promise29OfTheFirstOneOfTheLongestRows() {
        Check.due(2, "0 or 1 or 2, and 0 then 1 is the first of the longest",
            () -> on(9, 9, "c0,0,0 m0,1,0 m0,1,0").stuck());
        Check.due(4, "1 2 0 3: of the two lights, the later one is left",
            () -> on(0, 0, "e0,0,0 m0,1,0 m0,2,2 l0,1,0 l0,1,0").stuck());
        Check.due(0, "1 2 3 4 leaves 0 behind, 1 2 0 would leave 3 and 4",
            () -> on(0, 9, "e0,0,0 m0,1,0 m0,2,2 e0,1,0 g0,2,8").stuck());
        Check.due(3, "who enters once cannot enter twice", () -> on(9, 9, "e0,0,0 c0,0,0 c0,0,0 e0,1,0").stuck());
    }

    @Says(promise = 29, value = "and of the cues that are left behind it, the one with the lowest number")
    static void promise29TheLowestOfThoseThatAreLeft() {
        Check.due(0, "0 and 1", () -> on(9, 9, "x0,0,0 x0,0,0").stuck());
        Check.due(1, "1 and 2", () -> on(9, 9, "c0,0,0 x0,0,0 x0,0,0").stuck());
        Check.due(1, "1 and 2, 0 being done", () -> on(9, 9, "c0,0,0 x0,0,0 x0,0,0", 0).stuck());
        Check.due(7, "7 alone", () -> nineWithOneThatCannot().stuck());
        Check.due(8, "the last one", () -> on(9, 9, "c0,0,0 c0,0,0 c0,0,0 c0,0,0 c0,0,0 c0,0,0 c0,0,0 c0,0,0 x0,0,0",
            0, 1).stuck());
        Check.due(1, "the one that another one needs", () -> on(9, 9, "c0,0,0 x0,0,0 c0,0,2").stuck());
        Check.due(1, "what is left of three", () -> small(0).stuck());
    }

    @Says(promise = 29, value = "Returns the number of the cue")
    static void promise29ReturnsTheNumber() {
        for (int cue = 0; cue < 8; cue++) {
            int of = cue;
            StringBuilder cues = new StringBuilder();
            for (int i = 0; i < 8; i++) {
                cues.append(i == 0 ? "" : " ").append(i == cue ? 'x' : 'c').append("0,0,0");
            }
            Check.due(of, "none but " + cue, () -> on(9, 9, cues.toString()).stuck());
        }
    }

    @Says(promise = 29, value = "Throws `IllegalStateException` if no evening is on")
    static void promise29ThrowsIfNoEveningIsOn() {
        needsAnEvening(x -> x.stuck());
    }

    @Says(promise = 29, value = "Throws `UnsupportedOperationException` if more than 300 states can come up")
    static void promise29ThrowsIfMoreThan300StatesCanComeUp() {
        needsFewStates(x -> x.stuck());
        Twin.refused(Check.UNSUPPORTED, "and no order", () -> lightsBeside(), x -> x.stuck());
    }

    @Says(promise = 29, value = "Throws `NoSuchElementException` if there is an order")
    static void promise29ThrowsIfThereIsAnOrder() {
        Twin.refused(Check.ELEMENT, "of three", OrdersSentencesTest::small, x -> x.stuck());
        Twin.refused(Check.ELEMENT, "no cues", () -> on(9, 9, ""), x -> x.stuck());
        Twin.refused(Check.ELEMENT, "none left", () -> on(9, 9, "c0,0,0", 0), x -> x.stuck());
        Twin.refused(Check.ELEMENT, "eight of nine", () -> nineFree(0), x -> x.stuck());
    }

    @Says(promise = 29, value = {"Throws `IllegalStateException` if", "Throws `UnsupportedOperationException` if",
        "Throws `NoSuchElementException` if"})
    static void promise29ListedFirst() {
        eveningFirst(x -> x.stuck());
        Twin.refused(Check.UNSUPPORTED, "too many states, and an order", () -> nineFree(), x -> x.stuck());
        Twin.refused(Check.STATE, "no evening is on, and the last one had an order", () -> {
            Theatrehouse x = small();
            x.hasOrder();
            x.end();
            return x;
        }, x -> x.stuck());
    }

    // ---- Promise 30: orders.

    @Says(promise = 30, value = {"Returns the number of orders"})
    static void promise30ReturnsTheNumberOfOrders() {
        Check.due(1L, "no cues: the row of none", () -> on(9, 9, "").orders());
        Check.due(1L, "none left", () -> on(9, 9, "c0,0,0", 0).orders());
        Check.due(0L, "none", () -> on(9, 9, "x0,0,0").orders());
        Check.due(0L, "none of nine", () -> nineWithOneThatCannot().orders());
        Check.due(3L, "m ahead of e", () -> small().orders());
        Check.due(1L, "m, then e, l being done", () -> small(2).orders());
        Check.due(0L, "not any more", () -> small(0).orders());
        long factorial = 1;
        for (int left = 1; left <= 8; left++) {
            factorial *= left;
            long due = factorial;
            Theatrehouse x = nineFree();
            for (int cue = left; cue < 9; cue++) {
                x.perform(cue);
            }
            Check.due(due, left + " free cues", () -> x.orders());
        }
        Check.due(9L, "eight in a row and one beside it",
            () -> on(9, 9, "c0,0,0 c0,0,1 c0,0,2 c0,0,4 c0,0,8 c0,0,16 c0,0,32 c0,0,64 c0,0,0").orders());
        Check.due(40320L, "nine, the last one behind the first: 8! ways, one being done",
            () -> on(9, 9, "c0,0,0 c0,0,0 c0,0,0 c0,0,0 c0,0,0 c0,0,0 c0,0,0 c0,0,0 c0,0,1", 0).orders());
    }

    @Says(promise = 30, value = "Throws `IllegalStateException` if no evening is on")
    static void promise30ThrowsIfNoEveningIsOn() {
        needsAnEvening(x -> x.orders());
    }

    @Says(promise = 30, value = "Throws `UnsupportedOperationException` if more than 300 states can come up")
    static void promise30ThrowsIfMoreThan300StatesCanComeUp() {
        needsFewStates(x -> x.orders());
        Twin.refused(Check.UNSUPPORTED, "and no order", () -> lightsBeside(), x -> x.orders());
    }

    @Says(promise = 30, value = {"Throws `IllegalStateException` if", "Throws `UnsupportedOperationException` if"})
    static void promise30ListedFirst() {
        eveningFirst(x -> x.orders());
    }
}
