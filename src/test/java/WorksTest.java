/** Promises 7 to 10. */
public final class WorksTest {
    public static void main(String[] args) {
        addWork();
        setRole();
        addCueRanges();
        addCueNeeds();
        addCueOrderOfExceptions();
        cues();
        Check.finish("WorksTest");
    }

    private static void addWork() {
        Theatrehouse x = Houses.withPeople(1);
        Check.due(Check.ARGUMENT, "roles below", () -> x.addWork(0, 5));
        Check.due(Check.ARGUMENT, "roles above", () -> x.addWork(6, 5));
        Check.due(Check.ARGUMENT, "price below", () -> x.addWork(1, 0));
        Check.due(Check.ARGUMENT, "price above", () -> x.addWork(1, 100));
        Check.due(0, "least numbers", () -> x.addWork(1, 1));
        Check.due(1, "greatest numbers", () -> x.addWork(5, 99));
        Check.due(0, "balance at first", () -> x.balance(1));
        Check.due(0, "the last role is there, with the person 0", () -> x.setRole(1, 4, 0));
        Check.due(Check.INDEX, "and no more", () -> x.setRole(1, 5, 0));
        Check.due(2, "a third", () -> x.addWork(2, 2));
        Check.due(Check.STATE, "a fourth", () -> x.addWork(2, 2));
        Check.due(Check.ARGUMENT, "a fourth out of range", () -> x.addWork(2, 100));
        Check.due(Check.INDEX, "was not added", () -> x.cues(3));

        Theatrehouse on = Houses.onWithoutCues();
        Check.due(Check.STATE, "while an evening is on", () -> on.addWork(1, 1));
        Check.due(Check.ARGUMENT, "out of range while an evening is on", () -> on.addWork(6, 1));
        on.end();
        Check.due(1, "behind the evening", () -> on.addWork(1, 1));
    }

    private static void setRole() {
        Theatrehouse x = Houses.withPeople(4);
        x.addWork(3, 1);
        x.addWork(3, 1);
        Check.due(0, "the person 0 at first", () -> x.setRole(0, 1, 3));
        Check.due(3, "the person before", () -> x.setRole(0, 1, 2));
        Check.due(2, "the same again", () -> x.setRole(0, 1, 2));
        Check.due(Check.UNSUPPORTED, "another role that was set", () -> x.setRole(0, 0, 2));
        Check.due(0, "free again", () -> x.setRole(0, 0, 3));
        Check.due(0, "the person 0 where it was not set", () -> x.setRole(0, 2, 0));
        Check.due(Check.UNSUPPORTED, "the person 0 where it was set", () -> x.setRole(0, 0, 0));
        Check.due(0, "works are apart", () -> x.setRole(1, 0, 2));
        Check.due(Check.UNSUPPORTED, "the role 0 was set to this person", () -> x.setRole(1, 2, 2));
        Check.due(Check.INDEX, "no such work", () -> x.setRole(2, 0, 0));
        Check.due(Check.INDEX, "work below", () -> x.setRole(-1, 0, 0));
        Check.due(Check.INDEX, "no such role", () -> x.setRole(0, 3, 2));
        Check.due(Check.INDEX, "role below", () -> x.setRole(0, -1, 2));
        Check.due(Check.INDEX, "no such person", () -> x.setRole(0, 0, 4));
        Check.due(Check.INDEX, "person below", () -> x.setRole(0, 0, -1));
        Check.due(3, "refusals changed nothing", () -> x.setRole(0, 0, 1));
        Houses.open(x);
        Check.due(Check.STATE, "while an evening is on", () -> x.setRole(0, 0, 3));
        Check.due(Check.UNSUPPORTED, "another role while an evening is on", () -> x.setRole(0, 0, 2));
        Check.due(Check.INDEX, "no such role while an evening is on", () -> x.setRole(0, 3, 2));
        Check.due(1, "singer of the role 0", () -> x.singer(0));
        Check.due(2, "singer of the role 1", () -> x.singer(1));
        Check.due(0, "singer of the role 2", () -> x.singer(2));
    }

    private static void refuseCue(Theatrehouse x, String what, char kind, int a, int b) {
        Check.due(Check.ARGUMENT, what, () -> x.addCue(0, kind, a, b, 1, 0));
    }

    private static void addCueRanges() {
        Theatrehouse x = Houses.withPeople(1);
        x.addWork(2, 1);
        x.addMachine(0, 0);
        x.addMachine(0, 0);
        for (char kind : new char[] {'e', 'g', 'x', 's', 'm'}) {
            refuseCue(x, kind + " a below", kind, -1, kind == 's' ? 1 : 0);
            refuseCue(x, kind + " a above", kind, 2, kind == 's' ? 1 : 0);
        }
        for (char kind : new char[] {'c', 'l'}) {
            refuseCue(x, kind + " a below", kind, -1, 0);
            refuseCue(x, kind + " a above", kind, 5, 0);
        }
        for (char kind : new char[] {'e', 'g', 'x', 'c', 'm', 'l'}) {
            refuseCue(x, kind + " b below", kind, 0, -1);
        }
        refuseCue(x, "s b below", 's', 0, 0);
        refuseCue(x, "e b above", 'e', 0, 5);
        refuseCue(x, "g b above", 'g', 0, 5);
        refuseCue(x, "x b above", 'x', 0, 1);
        refuseCue(x, "c b above", 'c', 0, 1);
        refuseCue(x, "m b above", 'm', 0, 8);
        refuseCue(x, "s b above", 's', 0, 31);
        refuseCue(x, "l b above", 'l', 0, 4);
        for (char kind : new char[] {'a', 'E', ' ', '-', (char) 0, (char) 255, 'p'}) {
            refuseCue(x, "no kind " + (int) kind, kind, 0, 0);
        }
        Check.due(Check.ARGUMENT, "minutes below", () -> x.addCue(0, 'c', 0, 0, 0, 0));
        Check.due(Check.ARGUMENT, "minutes above", () -> x.addCue(0, 'c', 0, 0, 61, 0));
        Check.due(0, "refusals added nothing", () -> x.cues(0));

        Check.due(0, "e", () -> x.addCue(0, 'e', 1, 4, 60, 0));
        Check.due(1, "g", () -> x.addCue(0, 'g', 1, 4, 1, 0));
        Check.due(2, "x", () -> x.addCue(0, 'x', 1, 0, 1, 0));
        Check.due(3, "c", () -> x.addCue(0, 'c', 4, 0, 1, 0));
        Check.due(4, "m", () -> x.addCue(0, 'm', 1, 7, 1, 0));
        Check.due(5, "s", () -> x.addCue(0, 's', 1, 30, 1, 0));
        Check.due(6, "l", () -> x.addCue(0, 'l', 4, 3, 1, 0));
        Check.due(7, "s with the least voice", () -> x.addCue(0, 's', 0, 1, 1, 0));
        Check.due(8, "l with none", () -> x.addCue(0, 'l', 0, 0, 1, 0));

        Theatrehouse bare = new Theatrehouse();
        bare.addWork(1, 1);
        Check.due(Check.ARGUMENT, "no machine at all", () -> bare.addCue(0, 'm', 0, 1, 1, 0));
        Check.due(0, "a role without a person", () -> bare.addCue(0, 'e', 0, 1, 1, 0));
    }

    private static void addCueNeeds() {
        Theatrehouse x = Houses.withPeople(1);
        x.addWork(1, 1);
        Check.due(Check.ARGUMENT, "the first needs itself", () -> x.addCue(0, 'c', 0, 0, 1, 1));
        Check.due(0, "the first", () -> x.addCue(0, 'c', 0, 0, 1, 0));
        Check.due(1, "the second needs the first", () -> x.addCue(0, 'c', 0, 0, 1, 1));
        Check.due(Check.ARGUMENT, "the third needs itself", () -> x.addCue(0, 'c', 0, 0, 1, 4));
        Check.due(Check.ARGUMENT, "the third needs a later one", () -> x.addCue(0, 'c', 0, 0, 1, 9));
        Check.due(Check.ARGUMENT, "all bits", () -> x.addCue(0, 'c', 0, 0, 1, -1));
        Check.due(Check.ARGUMENT, "the highest bit", () -> x.addCue(0, 'c', 0, 0, 1, Integer.MIN_VALUE));
        Check.due(2, "the third needs both", () -> x.addCue(0, 'c', 0, 0, 1, 3));
        Houses.open(x);
        Check.due('n', "the third waits for both", () -> x.obstacle(2));
        x.perform(0);
        Check.due('n', "the third waits for the second", () -> x.obstacle(2));
        x.perform(1);
        Check.due('-', "the third waits no more", () -> x.obstacle(2));
    }

    private static void addCueOrderOfExceptions() {
        Theatrehouse x = Houses.withPeople(1);
        x.addWork(1, 1);
        Check.due(Check.INDEX, "no such work, no such kind", () -> x.addCue(1, 'q', 0, 0, 1, 0));
        Check.due(Check.INDEX, "work below", () -> x.addCue(-1, 'c', 0, 0, 1, 0));
        for (int i = 0; i < 9; i++) {
            int number = i;
            Check.due(number, "cue " + i, () -> x.addCue(0, 'c', 0, 0, 1, (1 << number) - 1));
        }
        Check.due(Check.STATE, "a tenth", () -> x.addCue(0, 'c', 0, 0, 1, 0));
        Check.due(Check.STATE, "a tenth that needs all", () -> x.addCue(0, 'c', 0, 0, 1, 511));
        Check.due(Check.ARGUMENT, "a tenth that needs itself", () -> x.addCue(0, 'c', 0, 0, 1, 512));
        Check.due(Check.ARGUMENT, "a tenth out of range", () -> x.addCue(0, 'c', 0, 0, 61, 0));
        Check.due(9, "was not added", () -> x.cues(0));

        Theatrehouse on = Houses.onWithoutCues();
        Check.due(Check.STATE, "while an evening is on", () -> on.addCue(0, 'c', 0, 0, 1, 0));
        Check.due(Check.ARGUMENT, "out of range while an evening is on", () -> on.addCue(0, 'c', 5, 0, 1, 0));
        Check.due(Check.INDEX, "no such work while an evening is on", () -> on.addCue(1, 'c', 5, 0, 1, 0));
        Check.due(0, "none was added", () -> on.cues(0));
    }

    private static void cues() {
        Theatrehouse x = Houses.withPeople(1);
        x.addWork(1, 1);
        x.addWork(1, 1);
        x.addCue(1, 'c', 0, 0, 1, 0);
        x.addCue(1, 'c', 0, 0, 1, 0);
        Check.due(0, "no cues", () -> x.cues(0));
        Check.due(2, "two cues", () -> x.cues(1));
        Check.due(Check.INDEX, "no such work", () -> x.cues(2));
        Check.due(Check.INDEX, "work below", () -> x.cues(-1));
    }
}
