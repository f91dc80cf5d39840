import java.lang.reflect.Array;
import java.lang.reflect.Field;

/** Promises 31 to 36. */
public final class BooksTest {
    public static void main(String[] args) throws ReflectiveOperationException {
        balance();
        overtime();
        overtimeOfThoseWhoEntered();
        sung();
        evenings();
        soldShare();
        meanMinutes();
        isConsistent();
        isNotConsistent();
        Check.finish("BooksTest");
    }

    private static void balance() {
        Theatrehouse x = EveningTest.singing(20, 5);
        x.sell(0, 3);
        Check.due(27, "tickets", () -> x.balance(0));
        Houses.perform(x, 0, 1, 2);
        Check.due(7, "the fee times the voice", () -> x.balance(0));
        x.takeBack();
        Check.due(27, "comes back with the cue", () -> x.balance(0));
        x.perform(2);
        x.end();
        Check.due(7, "stays", () -> x.balance(0));
        Check.due(Check.INDEX, "no such work", () -> x.balance(1));
        Check.due(Check.INDEX, "work below", () -> x.balance(-1));

        Theatrehouse two = Houses.withPeople(2);
        two.addWork(1, 1);
        two.addWork(1, 1);
        two.setRole(1, 0, 0);
        two.setCover(0, 1);
        two.addCue(1, 'e', 0, 0, 1, 0);
        two.addCue(1, 'l', 0, 1, 1, 0);
        two.addCue(1, 's', 0, 2, 1, 0);
        two.fallIll(0, 1);
        two.plan(1, 0);
        two.begin();
        Houses.perform(two, 0, 1, 2);
        Check.due(-22, "the fee of the cover", () -> two.balance(1));
        Check.due(0, "the other work", () -> two.balance(0));
        Check.due(2, "sung by the cover", () -> two.sung(1));
        Check.due(0, "not by the person", () -> two.sung(0));
    }

    /** One who entered; the minutes are those of 'e' and of further cues. */
    private static int balanceBehind(int minutes) {
        Theatrehouse x = Houses.withPeople(1);
        x.addWork(1, 1);
        int left = minutes;
        for (int cue = 0; left > 0; cue++) {
            int taken = Math.min(60, left);
            x.addCue(0, cue == 0 ? 'e' : 'c', 0, 0, taken, 0);
            left -= taken;
        }
        Houses.open(x);
        for (int cue = 0; cue < x.cues(0); cue++) {
            x.perform(cue);
        }
        Check.due(0, "nothing is less until it ends", () -> x.balance(0));
        x.end();
        return x.balance(0);
    }

    private static void overtime() {
        Check.due(0, "119 minutes", () -> balanceBehind(119));
        Check.due(0, "120 minutes", () -> balanceBehind(120));
        Check.due(-5, "121 minutes", () -> balanceBehind(121));
        Check.due(-5, "130 minutes", () -> balanceBehind(130));
        Check.due(-10, "131 minutes", () -> balanceBehind(131));
        Check.due(-10, "140 minutes", () -> balanceBehind(140));
        Check.due(-210, "540 minutes", () -> balanceBehind(540));
    }

    private static void overtimeOfThoseWhoEntered() {
        Theatrehouse x = Houses.withPeople(3);
        x.addWork(4, 1);
        x.setRole(0, 1, 1);
        x.setRole(0, 2, 2);
        x.addCue(0, 'e', 0, 0, 60, 0);
        x.addCue(0, 'x', 0, 0, 60, 0);
        x.addCue(0, 'e', 3, 0, 5, 0);
        x.addCue(0, 'e', 1, 0, 1, 0);
        x.addCue(0, 'e', 2, 0, 10, 0);
        Houses.open(x);
        Houses.perform(x, 0, 1, 2, 3, 4);
        x.takeBack();
        x.end();
        Check.due(-10, "two entered, one of them twice, and one was taken back", () -> x.balance(0));

        Theatrehouse late = Houses.withPeople(2);
        late.addWork(2, 1);
        late.setRole(0, 1, 1);
        late.addCue(0, 'e', 0, 0, 60, 0);
        late.addCue(0, 'e', 1, 0, 60, 0);
        late.addCue(0, 'c', 0, 0, 60, 0);
        late.addCue(0, 'c', 0, 0, 60, 0);
        Houses.open(late);
        Houses.perform(late, 1, 2, 3);
        late.end();
        Check.due(-30, "the second role alone entered", () -> late.balance(0));
    }

    private static void sung() {
        Theatrehouse x = EveningTest.singing(20, 7);
        Check.due(0, "none at first", () -> x.sung(0));
        Houses.perform(x, 0, 1, 2);
        Check.due(7, "one cue", () -> x.sung(0));
        x.takeBack();
        Check.due(0, "taken back", () -> x.sung(0));
        x.perform(2);
        x.end();
        x.pass(1);
        Houses.open(x);
        Houses.perform(x, 0, 1, 2);
        Check.due(14, "two evenings", () -> x.sung(0));
        x.end();
        Check.due(14, "stays", () -> x.sung(0));
        Check.due(Check.INDEX, "no such person", () -> x.sung(1));
        Check.due(Check.INDEX, "person below", () -> x.sung(-1));
    }

    private static void evenings() {
        Theatrehouse x = Houses.withPeople(1);
        x.addWork(1, 1);
        x.plan(0, 0);
        x.plan(0, 1);
        x.plan(0, 2);
        Check.due(0, "planned", () -> x.evenings());
        x.begin();
        Check.due(0, "on", () -> x.evenings());
        x.end();
        Check.due(1, "ended", () -> x.evenings());
        x.pass(2);
        Check.due(1, "one did not begin", () -> x.evenings());
        x.begin();
        x.end();
        Check.due(2, "two ended", () -> x.evenings());
    }

    private static void soldShare() {
        Theatrehouse x = Houses.withPeople(1);
        x.addWork(1, 1);
        Check.due(Check.ARITHMETIC, "no evenings", () -> x.soldShare());
        x.plan(0, 0);
        Check.due(0f, "none sold", () -> x.soldShare());
        x.sell(0, 10);
        Check.due((float) 10 / (float) 30, "a third", () -> x.soldShare());
        x.plan(0, 1);
        x.plan(0, 2);
        x.sell(1, 30);
        x.sell(2, 1);
        Check.due((float) 41 / (float) 90, "three planned", () -> x.soldShare());
        x.begin();
        Check.due((float) 41 / (float) 90, "one is on", () -> x.soldShare());
        x.end();
        Check.due((float) 41 / (float) 90, "one has ended", () -> x.soldShare());
        x.pass(2);
        Check.due((float) 11 / (float) 60, "one did not begin", () -> x.soldShare());

        Theatrehouse missed = Houses.withPeople(1);
        missed.addWork(1, 1);
        missed.plan(0, 0);
        missed.sell(0, 9);
        missed.pass(1);
        Check.due(Check.ARITHMETIC, "none but one that did not begin", () -> missed.soldShare());
    }

    private static void meanMinutes() {
        Theatrehouse x = Houses.withPeople(1);
        x.addWork(1, 1);
        x.addCue(0, 'c', 0, 0, 10, 0);
        x.addCue(0, 'c', 0, 0, 21, 0);
        Check.due(Check.ARITHMETIC, "none", () -> x.meanMinutes());
        Houses.open(x);
        x.perform(0);
        Check.due(Check.ARITHMETIC, "none has ended", () -> x.meanMinutes());
        x.end();
        Check.due(10.0, "one", () -> x.meanMinutes());
        x.pass(1);
        Houses.open(x);
        Houses.perform(x, 0, 1);
        x.takeBack();
        x.perform(1);
        Check.due(10.0, "the one that is on does not count", () -> x.meanMinutes());
        x.end();
        Check.due(20.5, "two", () -> x.meanMinutes());
        x.pass(1);
        Houses.open(x);
        x.end();
        Check.due((double) 41 / (double) 3, "three", () -> x.meanMinutes());
    }

    private static void isConsistent() {
        Theatrehouse x = EveningTest.singing(20, 7);
        Check.due(true, "three cues left, one order", () -> x.isConsistent());
        Houses.perform(x, 0, 1, 2);
        Check.due(true, "none left", () -> x.isConsistent());
        x.end();
        Check.due(true, "no evening", () -> x.isConsistent());

        Theatrehouse stuck = Houses.withPeople(1);
        stuck.addWork(1, 1);
        for (int i = 0; i < 5; i++) {
            stuck.addCue(0, 'l', 0, 1 + i % 2, 1, 0);
        }
        Houses.open(stuck);
        Check.due(true, "five cues left", () -> stuck.isConsistent());
        Houses.perform(stuck, 0);
        Check.due(true, "four cues left", () -> stuck.isConsistent());
        Houses.perform(stuck, 1, 2, 3, 4);
        Check.due(true, "all were done", () -> stuck.isConsistent());
    }

    /** No call gives a voice that is out of range, so this does it from inside. */
    static void setVoice(Theatrehouse x, int person, int voice) throws ReflectiveOperationException {
        set(Array.get(get(x, "people"), person), "voice", voice);
    }

    /** No call breaks an invariant, so the test does it from inside: the check must see it. */
    private static void isNotConsistent() throws ReflectiveOperationException {
        Theatrehouse x = Houses.withPeople(2);
        for (int i = 0; i < 2; i++) {
            setVoice(x, i, 21 + i);
            Check.due(false, "a voice above the greatest one", () -> x.isConsistent());
            setVoice(x, i, -1);
            Check.due(false, "a voice below 0", () -> x.isConsistent());
            setVoice(x, i, 0);
            Check.due(true, "a voice of 0", () -> x.isConsistent());
        }
        for (String broken : new String[] {"rowLength", "leftCount", "orderCounts", "row"}) {
            Check.due(false, "of two cues is told wrong: " + broken, () -> isConsistentWith(broken, 2));
            Check.due(false, "of five cues is told wrong: " + broken, () -> isConsistentWith(broken, 5));
            Check.due(true, "of six cues nothing is tried: " + broken, () -> isConsistentWith(broken, 6));
        }
    }

    /** The check of an evening with so many free cues left, what is told of its orders being made wrong. */
    static boolean isConsistentWith(String broken, int cues) {
        return isConsistentWith(broken, cues, false);
    }

    /** The cues are free, or each one needs the one ahead of it, and one that stands alone was done. */
    static boolean isConsistentWith(String broken, int cues, boolean inOneOrder) {
        Theatrehouse x = Houses.withPeople(1);
        x.addWork(1, 1);
        for (int i = 0; i <= cues; i++) {
            x.addCue(0, 'c', 0, 0, 1, inOneOrder && i > 0 && i < cues ? 1 << i - 1 : 0);
        }
        Houses.open(x);
        x.perform(cues);
        x.orders();
        Check.due(true, "what is told is right", () -> x.isConsistent());
        try {
            Object search = get(x, "search");
            if (broken.equals("row") || broken.equals("orderCounts")) {
                Array.set(get(search, broken), 0, broken.equals("row") ? (Object) 1 : (Object) 3L);
            } else {
                set(search, broken, 1);
            }
        } catch (ReflectiveOperationException e) {
            throw new AssertionError(e);
        }
        return x.isConsistent();
    }

    private static Field field(Object of, String name) throws ReflectiveOperationException {
        Field field = of.getClass().getDeclaredField(name);
        field.setAccessible(true);
        return field;
    }

    private static Object get(Object of, String name) throws ReflectiveOperationException {
        return field(of, name).get(of);
    }

    private static void set(Object of, String name, int number) throws ReflectiveOperationException {
        field(of, name).setInt(of, number);
    }
}
