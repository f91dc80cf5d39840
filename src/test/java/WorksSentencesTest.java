/** Promises 7 to 10, sentence by sentence. */
public final class WorksSentencesTest {
    private static final int MIN = Houses.MIN;
    private static final int MAX = Houses.MAX;
    private static final char[] KINDS = {'e', 'g', 'x', 'c', 'm', 's', 'l'};

    public static void main(String[] args) throws ReflectiveOperationException {
        Sentences.run(WorksSentencesTest.class);
    }

    // ---- Promise 7: addWork.

    private static Theatrehouse withWorks(int count) {
        Theatrehouse x = Houses.withPeople(1);
        for (int i = 0; i < count; i++) {
            x.addWork(1 + i, 10 + i);
        }
        return x;
    }

    @Says(promise = 7, value = "Adds a work")
    static void promise07AddsAWork() {
        Theatrehouse x = Houses.withPeople(1);
        x.addWork(2, 3);
        Check.due(0, "the work is there, without cues", () -> x.cues(0));
        Check.due(0, "with nothing in its books", () -> x.balance(0));
        Check.due(Check.INDEX, "and no other", () -> x.cues(1));
        Check.due(1, "it can be planned", () -> x.plan(0, 0));
    }

    @Says(promise = 7, value = "`roles`: the number of roles, 1 to 5")
    static void promise07RolesAre1To5() {
        for (int roles : new int[] {MIN, -1, 0, 6, 7, MAX}) {
            Twin.refused(Check.ARGUMENT, roles + " roles", Houses.RICH, x -> x.addWork(roles, 5));
        }
        for (int roles = 1; roles <= 5; roles++) {
            int count = roles;
            Twin.due(2, roles + " roles", Houses.RICH, x -> x.addWork(count, 5));
            Theatrehouse x = Houses.withPeople(1);
            x.addWork(roles, 1);
            Houses.open(x);
            Check.due(0, "the last role is there", () -> x.singer(count - 1));
            Check.due(Check.INDEX, "and no more", () -> x.singer(count));
        }
    }

    @Says(promise = 7, value = "`price`: the price of a ticket, 1 to 99")
    static void promise07PriceIs1To99() {
        for (int price : new int[] {MIN, -1, 0, 100, 101, MAX}) {
            Twin.refused(Check.ARGUMENT, "the price " + price, Houses.RICH, x -> x.addWork(1, price));
        }
        for (int price : new int[] {1, 2, 98, 99}) {
            Twin.due(2, "the price " + price, Houses.RICH, x -> x.addWork(1, price));
            Theatrehouse x = Houses.withPeople(1);
            x.addWork(1, price);
            x.plan(0, 0);
            x.sell(0, 30);
            Check.due(30 * price, "the price " + price + " for 30 tickets", () -> x.balance(0));
        }
    }

    @Says(promise = 7, value = "Returns the number of the work")
    static void promise07ReturnsTheNumber() {
        Theatrehouse x = new Theatrehouse();
        for (int i = 0; i < 3; i++) {
            int number = i;
            Check.due(number, "work " + i, () -> x.addWork(1, 1));
            Check.due(0, "has this number", () -> x.cues(number));
            Check.due(Check.INDEX, "and none the next", () -> x.cues(number + 1));
        }
    }

    @Says(promise = 7, value = "Throws `IllegalArgumentException` if a number is out of range")
    static void promise07ThrowsIfANumberIsOutOfRange() {
        Twin.refused(Check.ARGUMENT, "the roles", Houses.NEW, x -> x.addWork(6, 99));
        Twin.refused(Check.ARGUMENT, "the price", Houses.NEW, x -> x.addWork(5, 100));
        Twin.refused(Check.ARGUMENT, "both", Houses.NEW, x -> x.addWork(0, 0));
    }

    @Says(promise = 7, value = "if there are 3 works")
    static void promise07ThrowsIfThereAre3Works() {
        Twin.due(2, "there are 2", () -> withWorks(2), x -> x.addWork(1, 1));
        Twin.refused(Check.STATE, "there are 3", () -> withWorks(3), x -> x.addWork(1, 1));
        Twin.refused(Check.STATE, "the house is full", Houses.FULL, x -> x.addWork(1, 1));
    }

    @Says(promise = 7, value = "or an evening is on")
    static void promise07ThrowsIfAnEveningIsOn() {
        Twin.refused(Check.STATE, "on", Houses.RICH_ON, x -> x.addWork(1, 1));
        Theatrehouse x = Houses.richOn();
        x.end();
        Check.due(2, "behind it", () -> x.addWork(1, 1));
    }

    @Says(promise = 7, value = {"Throws `IllegalArgumentException` if", "Throws `IllegalStateException` if"})
    static void promise07ListedFirst() {
        Twin.House[] houses = {Houses.RICH, Houses.FULL, Houses.RICH_ON, Houses.FULL_ON};
        for (Twin.House house : houses) {
            for (int roles : new int[] {MIN, 0, 1, 5, 6, MAX}) {
                for (int price : new int[] {MIN, 0, 1, 99, 100, MAX}) {
                    boolean isOut = roles < 1 || roles > 5 || price < 1 || price > 99;
                    Object due = isOut ? Check.ARGUMENT : house == Houses.RICH ? (Object) 2 : Check.STATE;
                    Twin.due(due, "addWork " + roles + " " + price, house, x -> x.addWork(roles, price));
                }
            }
        }
        Twin.refused(Check.ARGUMENT, "out of range, 3 works", Houses.FULL, x -> x.addWork(6, 1));
        Twin.refused(Check.ARGUMENT, "out of range, an evening is on", Houses.RICH_ON, x -> x.addWork(1, 100));
        Twin.refused(Check.ARGUMENT, "all three", Houses.FULL_ON, x -> x.addWork(0, 0));
        Twin.refused(Check.STATE, "3 works, an evening is on", Houses.FULL_ON, x -> x.addWork(1, 1));
    }

    // ---- Promise 8: setRole.

    @Says(promise = 8, value = "Sets the person of a role")
    static void promise08SetsThePerson() {
        Theatrehouse x = Houses.withPeople(3);
        x.addWork(2, 1);
        x.addWork(2, 1);
        x.setRole(0, 1, 2);
        Houses.open(x);
        Check.due(2, "the person sings", () -> x.singer(1));
        Check.due(0, "the other role is left alone", () -> x.singer(0));
        x.end();
        x.pass(1);
        x.plan(1, 1);
        x.begin();
        Check.due(0, "the other work is left alone", () -> x.singer(1));
    }

    @Says(promise = 8, value = "`work`: the number of the work")
    static void promise08WorkIsANumber() {
        for (int work : new int[] {MIN, -1, 2, 3, MAX}) {
            Twin.refused(Check.INDEX, "the work " + work, Houses.RICH, x -> x.setRole(work, 0, 3));
        }
        Twin.due(0, "the work 0", Houses.RICH, x -> x.setRole(0, 0, 3));
        Twin.due(2, "the last work", Houses.RICH, x -> x.setRole(1, 0, 3));
        Twin.due(2, "the last of 3", Houses.FULL, x -> x.setRole(2, 0, 9));
        Twin.refused(Check.INDEX, "the work 3", Houses.FULL, x -> x.setRole(3, 0, 9));
    }

    @Says(promise = 8, value = "`role`: the role")
    static void promise08RoleIsOfTheWork() {
        for (int role : new int[] {MIN, -1, 3, 4, 5, MAX}) {
            Twin.refused(Check.INDEX, "the role " + role, Houses.RICH, x -> x.setRole(0, role, 3));
        }
        Twin.due(0, "the role 0", Houses.RICH, x -> x.setRole(0, 0, 3));
        Twin.due(0, "the last of 3 roles", Houses.RICH, x -> x.setRole(0, 2, 3));
        Twin.due(0, "the last of 2 roles", Houses.RICH, x -> x.setRole(1, 1, 3));
        Twin.refused(Check.INDEX, "a role of the other work only", Houses.RICH, x -> x.setRole(1, 2, 3));
        Twin.due(4, "the last of 5 roles", Houses.FULL, x -> x.setRole(0, 4, 9));
        Twin.refused(Check.INDEX, "the role 5", Houses.FULL, x -> x.setRole(0, 5, 9));
    }

    @Says(promise = 8, value = "`person`: the number of the person")
    static void promise08PersonIsANumber() {
        for (int person : new int[] {MIN, -2, -1, 4, 5, MAX}) {
            Twin.refused(Check.INDEX, "the person " + person, Houses.RICH, x -> x.setRole(0, 0, person));
        }
        Twin.due(0, "the person 0", Houses.RICH, x -> x.setRole(0, 0, 0));
        Twin.due(0, "the last person", Houses.RICH, x -> x.setRole(0, 0, 3));
        Twin.due(0, "the last of 10", Houses.FULL, x -> x.setRole(0, 0, 9));
        Twin.refused(Check.INDEX, "the person 10", Houses.FULL, x -> x.setRole(0, 0, 10));
    }

    @Says(promise = 8, value = "Returns the person before")
    static void promise08ReturnsThePersonBefore() {
        Theatrehouse x = Houses.withPeople(10);
        x.addWork(5, 1);
        Check.due(0, "the person 0 at first", () -> x.setRole(0, 4, 9));
        Check.due(9, "the person 9", () -> x.setRole(0, 4, 9));
        Check.due(9, "the same", () -> x.setRole(0, 4, 0));
        Check.due(0, "the person 0, who was set", () -> x.setRole(0, 4, 1));
        Check.due(0, "of another role", () -> x.setRole(0, 3, 9));
        Theatrehouse empty = new Theatrehouse();
        empty.addWork(1, 1);
        empty.addPerson(1, 1);
        empty.addPerson(1, 1);
        Check.due(0, "the person 0, who was added later", () -> empty.setRole(0, 0, 1));
    }

    @Says(promise = 8, value = "Throws `IndexOutOfBoundsException` if there is no such work, role or person")
    static void promise08ThrowsIfThereIsNoSuch() {
        Twin.refused(Check.INDEX, "no work", Houses.RICH, x -> x.setRole(2, 0, 0));
        Twin.refused(Check.INDEX, "no role", Houses.RICH, x -> x.setRole(0, 3, 0));
        Twin.refused(Check.INDEX, "no person", Houses.RICH, x -> x.setRole(0, 0, 4));
        Twin.refused(Check.INDEX, "none of them", Houses.RICH, x -> x.setRole(-1, -1, -1));
        Twin.refused(Check.INDEX, "an empty house", Houses.NEW, x -> x.setRole(0, 0, 0));
        Twin.refused(Check.INDEX, "a work in a house without people", () -> {
            Theatrehouse x = new Theatrehouse();
            x.addWork(1, 1);
            return x;
        }, x -> x.setRole(0, 0, 0));
    }

    @Says(promise = 8, value = "Throws `UnsupportedOperationException` if the person has another role of this work")
    static void promise08ThrowsIfThePersonHasAnotherRole() {
        Twin.refused(Check.UNSUPPORTED, "a lower role", Houses.RICH, x -> x.setRole(0, 2, 1));
        Twin.refused(Check.UNSUPPORTED, "a higher role", Houses.RICH, x -> x.setRole(0, 0, 1));
        Twin.due(1, "the same role", Houses.RICH, x -> x.setRole(0, 1, 1));
        Twin.due(0, "a role of another work", Houses.RICH, x -> x.setRole(0, 0, 2));
        for (int role = 1; role < 5; role++) {
            int of = role;
            Twin.refused(Check.UNSUPPORTED, "the role 0, for the role " + role, Houses.FULL,
                x -> x.setRole(0, of, 0));
            Twin.refused(Check.UNSUPPORTED, "the role " + role + ", for the role 0", Houses.FULL,
                x -> x.setRole(0, 0, of));
        }
    }

    @Says(promise = 8, value = "that was set")
    static void promise08OnlyRolesThatWereSetCount() {
        Theatrehouse x = Houses.withPeople(3);
        x.addWork(5, 1);
        Check.due(0, "all others have the person 0, but were not set", () -> x.setRole(0, 2, 0));
        Check.due(Check.UNSUPPORTED, "now one was set", () -> x.setRole(0, 3, 0));
        Check.due(0, "another person takes its place", () -> x.setRole(0, 2, 1));
        Check.due(0, "the person 0 is free again", () -> x.setRole(0, 3, 0));
        Check.due(Check.UNSUPPORTED, "the other one is not", () -> x.setRole(0, 4, 1));
    }

    @Says(promise = 8, value = "Throws `IllegalStateException` if an evening is on")
    static void promise08ThrowsIfAnEveningIsOn() {
        Twin.refused(Check.STATE, "the work that is on", Houses.RICH_ON, x -> x.setRole(0, 0, 3));
        Twin.refused(Check.STATE, "the same person again", Houses.RICH_ON, x -> x.setRole(0, 1, 1));
        Twin.refused(Check.STATE, "another work", Houses.RICH_ON, x -> x.setRole(1, 0, 3));
        Theatrehouse x = Houses.richOn();
        x.end();
        Check.due(0, "behind it", () -> x.setRole(0, 0, 3));
    }

    @Says(promise = 8, value = {"Throws `IndexOutOfBoundsException` if", "Throws `UnsupportedOperationException` if",
        "Throws `IllegalStateException` if"})
    static void promise08ListedFirst() {
        for (Twin.House house : new Twin.House[] {Houses.RICH, Houses.RICH_ON}) {
            for (int work : new int[] {MIN, -1, 0, 1, 2, MAX}) {
                for (int role : new int[] {MIN, -1, 0, 1, 2, 3, MAX}) {
                    for (int person : new int[] {MIN, -1, 0, 1, 2, 3, 4, MAX}) {
                        int roles = work == 0 ? 3 : 2;
                        boolean isNone = work < 0 || work > 1 || role < 0 || role >= roles || person < 0 || person > 3;
                        boolean isTwice = work == 0 && role != 1 && person == 1
                            || work == 1 && role != 0 && person == 2;
                        int before = work == 0 && role == 1 ? 1 : work == 1 && role == 0 ? 2 : 0;
                        Object due = isNone ? Check.INDEX : isTwice ? Check.UNSUPPORTED
                            : house == Houses.RICH_ON ? Check.STATE : (Object) before;
                        Twin.due(due, "setRole " + work + " " + role + " " + person, house,
                            x -> x.setRole(work, role, person));
                    }
                }
            }
        }
        Twin.refused(Check.INDEX, "no role, the person has another one", Houses.RICH, x -> x.setRole(0, 3, 1));
        Twin.refused(Check.INDEX, "no person, an evening is on", Houses.RICH_ON, x -> x.setRole(0, 0, 4));
        Twin.refused(Check.INDEX, "all three", Houses.RICH_ON, x -> x.setRole(0, 3, 1));
        Twin.refused(Check.UNSUPPORTED, "another role, an evening is on", Houses.RICH_ON, x -> x.setRole(0, 0, 1));
    }

    // ---- Promise 9: addCue.

    /** Five roles, six machines, and a work with two cues, to which a third one is added. */
    private static Theatrehouse forCues() {
        return withTwoCues(Houses.withMachines(6));
    }

    private static Theatrehouse withTwoCues(Theatrehouse x) {
        x.addPerson(1, 30);
        x.addWork(5, 1);
        x.addWork(1, 1);
        x.addCue(0, 'c', 0, 0, 1, 0);
        x.addCue(0, 'c', 1, 0, 1, 0);
        return x;
    }

    private static final Twin.House FOR_CUES = WorksSentencesTest::forCues;

    private static int least(char kind) {
        return kind == 's' ? 1 : 0;
    }

    private static int mostA(char kind) {
        return kind == 'm' ? 5 : 4;
    }

    private static int mostB(char kind) {
        switch (kind) {
            case 'e':
            case 'g':
                return 4;
            case 'm':
                return 7;
            case 's':
                return 30;
            case 'l':
                return 3;
            default:
                return 0;
        }
    }

    @Says(promise = 9, value = "Adds a cue")
    static void promise09AddsACue() {
        Theatrehouse x = forCues();
        x.addCue(0, 'l', 3, 2, 7, 1);
        Check.due(3, "one more", () -> x.cues(0));
        Check.due(0, "none for the other work", () -> x.cues(1));
        Houses.open(x);
        Check.due('n', "it waits", () -> x.obstacle(2));
        x.perform(0);
        Check.due(8, "its minutes", () -> x.perform(2));
    }

    @Says(promise = 9, value = "`work`: the number of the work")
    static void promise09WorkIsANumber() {
        for (int work : new int[] {MIN, -1, 2, 3, MAX}) {
            Twin.refused(Check.INDEX, "the work " + work, Houses.RICH, x -> x.addCue(work, 'c', 0, 0, 1, 0));
        }
        Twin.due(8, "the work 0", Houses.RICH, x -> x.addCue(0, 'c', 0, 0, 1, 0));
        Twin.due(3, "the last work", Houses.RICH, x -> x.addCue(1, 'c', 0, 0, 1, 0));
        Twin.due(0, "the last of 3", () -> withWorks(3), x -> x.addCue(2, 'c', 0, 0, 1, 0));
        Twin.refused(Check.INDEX, "the work 3", () -> withWorks(3), x -> x.addCue(3, 'c', 0, 0, 1, 0));
    }

    @Says(promise = 9, value = {"`kind`: its kind", "no such kind"})
    static void promise09Kind() {
        for (int from = 0; from <= Character.MAX_VALUE; from += 256) {
            Theatrehouse x = forCues();
            for (int sign = from; sign < from + 256; sign++) {
                char none = (char) sign;
                if ("egxcmsl".indexOf(none) < 0) {
                    Check.due(Check.ARGUMENT, "the sign " + sign, () -> x.addCue(0, none, 0, none % 2, 1, 0));
                }
            }
            Check.due(2, "nothing was added", () -> x.cues(0));
        }
        for (char kind : new char[] {0, 1, ' ', '-', 'a', 'd', 'f', 'E', 'G', 'X', 'C', 'M', 'S', 'L', 'k', 'n', 'r',
            't', 'w', 'y', 'z', 127, 128, 255, 256, 'e' + 256, 'c' + 256, Character.MAX_VALUE}) {
            Twin.refused(Check.ARGUMENT, "the sign " + (int) kind, FOR_CUES, y -> y.addCue(0, kind, 0, 0, 1, 0));
            Twin.refused(Check.ARGUMENT, "the sign " + (int) kind, FOR_CUES, y -> y.addCue(0, kind, 1, 1, 1, 0));
        }
        for (char kind : KINDS) {
            Twin.due(2, "the kind " + kind, FOR_CUES, y -> y.addCue(0, kind, 0, least(kind), 1, 0));
        }
    }

    @Says(promise = 9, value = {"`a`: the number a", "role, zone or machine"})
    static void promise09NumberA() {
        for (char kind : KINDS) {
            int most = mostA(kind);
            for (int a : new int[] {MIN, -2, -1, most + 1, most + 2, MAX}) {
                Twin.refused(Check.ARGUMENT, kind + ", a " + a, FOR_CUES,
                    x -> x.addCue(0, kind, a, least(kind), 1, 0));
            }
            for (int a = 0; a <= most; a++) {
                int of = a;
                Twin.due(2, kind + ", a " + a, FOR_CUES, x -> x.addCue(0, kind, of, least(kind), 1, 0));
            }
        }
    }

    @Says(promise = 9, value = "role")
    static void promise09RolesAreThoseOfTheWork() {
        for (char kind : new char[] {'e', 'g', 'x', 's'}) {
            Twin.due(0, kind + " with the one role of the work", FOR_CUES,
                x -> x.addCue(1, kind, 0, least(kind), 1, 0));
            for (int role : new int[] {MIN, -1, 1, 4, MAX}) {
                Twin.refused(Check.ARGUMENT, kind + " with the role " + role + " of one", FOR_CUES,
                    x -> x.addCue(1, kind, role, least(kind), 1, 0));
            }
            Twin.due(8, kind + " with the last of 3 roles", Houses.RICH,
                x -> x.addCue(0, kind, 2, least(kind), 1, 0));
            Twin.refused(Check.ARGUMENT, kind + " with a fourth role", Houses.RICH,
                x -> x.addCue(0, kind, 3, least(kind), 1, 0));
        }
        Twin.due(0, "a role in a house without people", () -> {
            Theatrehouse x = new Theatrehouse();
            x.addWork(1, 1);
            return x;
        }, x -> x.addCue(0, 'e', 0, 0, 1, 0));
    }

    @Says(promise = 9, value = "zone")
    static void promise09Zones() {
        for (char kind : new char[] {'c', 'l'}) {
            Twin.due(0, kind + " in the last zone, for a work with one role", FOR_CUES,
                x -> x.addCue(1, kind, 4, 0, 1, 0));
            Twin.refused(Check.ARGUMENT, kind + " in a sixth zone", FOR_CUES, x -> x.addCue(1, kind, 5, 0, 1, 0));
        }
        for (char kind : new char[] {'e', 'g'}) {
            Twin.due(0, kind + " to the last zone", FOR_CUES, x -> x.addCue(1, kind, 0, 4, 1, 0));
            Twin.refused(Check.ARGUMENT, kind + " to a sixth zone", FOR_CUES, x -> x.addCue(1, kind, 0, 5, 1, 0));
        }
    }

    @Says(promise = 9, value = "machine")
    static void promise09Machines() {
        for (int count = 0; count <= 6; count++) {
            int machines = count;
            Twin.House house = () -> withTwoCues(Houses.withMachines(machines));
            Twin.refused(Check.ARGUMENT, "the machine behind " + count, house,
                x -> x.addCue(0, 'm', machines, 1, 1, 0));
            if (count > 0) {
                Twin.due(2, "the last of " + count, house, x -> x.addCue(0, 'm', machines - 1, 1, 1, 0));
            }
        }
    }

    @Says(promise = 9, value = "`b`: the number b")
    static void promise09NumberB() {
        for (char kind : KINDS) {
            int least = least(kind);
            int most = mostB(kind);
            for (int b : new int[] {MIN, least - 2, least - 1, most + 1, most + 2, MAX}) {
                Twin.refused(Check.ARGUMENT, kind + ", b " + b, FOR_CUES, x -> x.addCue(0, kind, 1, b, 1, 0));
            }
            for (int b = least; b <= most; b++) {
                int of = b;
                Twin.due(2, kind + ", b " + b, FOR_CUES, x -> x.addCue(0, kind, 1, of, 1, 0));
            }
        }
    }

    @Says(promise = 9, value = "`minutes`: the minutes that it takes, 1 to 60")
    static void promise09MinutesAre1To60() {
        for (char kind : KINDS) {
            for (int minutes : new int[] {MIN, -1, 0, 61, 62, MAX}) {
                Twin.refused(Check.ARGUMENT, kind + ", minutes " + minutes, FOR_CUES,
                    x -> x.addCue(0, kind, 0, least(kind), minutes, 0));
            }
        }
        for (int minutes : new int[] {1, 2, 59, 60}) {
            Theatrehouse x = forCues();
            Check.due(2, minutes + " minutes", () -> x.addCue(0, 'c', 0, 0, minutes, 0));
            Houses.open(x);
            Check.due(minutes, "it takes them", () -> x.perform(2));
        }
    }

    @Says(promise = 9, value = "`needs`: the cues that must be done ahead, as bits")
    static void promise09NeedsAreBits() {
        for (int cues = 0; cues < 9; cues++) {
            int number = cues;
            for (int needs = 0; needs < 1 << number; needs += number < 5 ? 1 : 37) {
                int bits = needs;
                Twin.due(number, "cue " + number + " needs " + needs, () -> Houses.withFreeCues(number),
                    x -> x.addCue(0, 'c', 0, 0, 1, bits));
            }
        }
        for (int needs = 0; needs < 256; needs++) {
            int bits = needs;
            Theatrehouse x = Houses.withFreeCues(8);
            x.addCue(0, 'c', 0, 0, 1, needs);
            x.begin();
            for (int cue = 0; cue < 8; cue++) {
                if ((needs >> cue & 1) == 1) {
                    Check.due('n', needs + " needs " + cue, () -> x.obstacle(8));
                    x.perform(cue);
                }
            }
            Check.due('-', needs + " needs no others", () -> x.obstacle(8));
        }
    }

    @Says(promise = 9, value = "a cue that must be done ahead has no lower number")
    static void promise09ThrowsIfACueAheadHasNoLowerNumber() {
        for (int cues = 0; cues < 9; cues++) {
            int number = cues;
            Twin.House house = () -> Houses.withFreeCues(number);
            Twin.due(number, "all lower ones of " + number, house,
                x -> x.addCue(0, 'c', 0, 0, 1, (1 << number) - 1));
            for (int bit = number; bit < 32; bit++) {
                int needs = 1 << bit;
                Twin.due(Check.ARGUMENT, number + " needs " + bit, house, x -> x.addCue(0, 'c', 0, 0, 1, needs));
                Twin.due(Check.ARGUMENT, number + " needs " + bit + " and all lower ones", house,
                    x -> x.addCue(0, 'c', 0, 0, 1, needs | needs - 1));
            }
            for (int needs : new int[] {1 << number, 2 << number, MIN, MAX, -1}) {
                Twin.refused(Check.ARGUMENT, number + " needs the bits " + needs, house,
                    x -> x.addCue(0, 'c', 0, 0, 1, needs));
            }
        }
    }

    @Says(promise = 9, value = "Returns the number of the cue")
    static void promise09ReturnsTheNumber() {
        Theatrehouse x = forCues();
        for (int i = 2; i < 9; i++) {
            int number = i;
            Check.due(number, "cue " + i, () -> x.addCue(0, 'c', 0, 0, 1, 0));
            Check.due(number + 1, "so many are there", () -> x.cues(0));
            Check.due(number - 2, "for the other work", () -> x.addCue(1, 'c', 0, 0, 1, 0));
        }
    }

    @Says(promise = 9, value = "Throws `IndexOutOfBoundsException` if there is no such work")
    static void promise09ThrowsIfThereIsNoSuchWork() {
        Twin.refused(Check.INDEX, "none at all", Houses.NEW, x -> x.addCue(0, 'c', 0, 0, 1, 0));
        Twin.refused(Check.INDEX, "a third of two", Houses.RICH, x -> x.addCue(2, 'c', 0, 0, 1, 0));
        Twin.refused(Check.INDEX, "a fourth of three", Houses.FULL, x -> x.addCue(3, 'c', 0, 0, 1, 0));
    }

    @Says(promise = 9, value = {"Throws `IllegalArgumentException` if there is no such kind, role, zone or machine",
        "a number is out of range"})
    static void promise09ThrowsIfANumberIsOutOfRange() {
        Twin.refused(Check.ARGUMENT, "no such kind", Houses.RICH, x -> x.addCue(0, 'b', 0, 0, 1, 0));
        Twin.refused(Check.ARGUMENT, "no such role", Houses.RICH, x -> x.addCue(0, 'e', 3, 0, 1, 0));
        Twin.refused(Check.ARGUMENT, "no such zone", Houses.RICH, x -> x.addCue(0, 'l', 5, 0, 1, 0));
        Twin.refused(Check.ARGUMENT, "no such machine", Houses.RICH, x -> x.addCue(0, 'm', 3, 0, 1, 0));
        Twin.refused(Check.ARGUMENT, "the number b", Houses.RICH, x -> x.addCue(0, 'x', 0, 1, 1, 0));
        Twin.refused(Check.ARGUMENT, "the minutes", Houses.RICH, x -> x.addCue(0, 'c', 0, 0, 0, 0));
        Twin.refused(Check.ARGUMENT, "the needs", Houses.RICH, x -> x.addCue(0, 'c', 0, 0, 1, 256));
        Twin.refused(Check.ARGUMENT, "all of them", Houses.RICH, x -> x.addCue(0, 'q', 9, 9, 0, 256));
    }

    @Says(promise = 9, value = "if the work has 9 cues")
    static void promise09ThrowsIfTheWorkHas9Cues() {
        Twin.due(8, "it has 8", () -> Houses.withFreeCues(8), x -> x.addCue(0, 'c', 0, 0, 1, 0));
        Twin.House nine = () -> Houses.withFreeCues(9);
        for (char kind : new char[] {'e', 'g', 'x', 'c', 's', 'l'}) {
            Twin.refused(Check.STATE, "it has 9, " + kind, nine, x -> x.addCue(0, kind, 0, least(kind), 1, 0));
        }
        Twin.refused(Check.STATE, "needs all 9", nine, x -> x.addCue(0, 'c', 0, 0, 1, 511));
        Twin.refused(Check.STATE, "the house is full", Houses.FULL, x -> x.addCue(2, 'm', 5, 7, 60, 0));
        Theatrehouse x = Houses.withFreeCues(9);
        x.addWork(1, 1);
        Check.due(0, "another work has none", () -> x.addCue(1, 'c', 0, 0, 1, 0));
    }

    @Says(promise = 9, value = "or an evening is on")
    static void promise09ThrowsIfAnEveningIsOn() {
        Twin.refused(Check.STATE, "the work that is on", Houses.RICH_ON, x -> x.addCue(0, 'c', 0, 0, 1, 0));
        Twin.refused(Check.STATE, "another work", Houses.RICH_ON, x -> x.addCue(1, 'c', 0, 0, 1, 0));
        Theatrehouse x = Houses.richOn();
        x.end();
        Check.due(8, "behind it", () -> x.addCue(0, 'c', 0, 0, 1, 0));
    }

    @Says(promise = 9, value = {"Throws `IndexOutOfBoundsException` if", "Throws `IllegalArgumentException` if",
        "Throws `IllegalStateException` if"})
    static void promise09ListedFirst() {
        int[][] rows = {{1, 0, 0, 1, 0}, {1, 5, 0, 1, 0}, {1, 0, 1, 1, 0}, {1, 0, 0, 61, 0}, {1, 0, 0, 1, 512},
            {0, 0, 0, 1, 0}};
        Twin.House[] houses = {() -> Houses.withFreeCues(9), Houses.FULL, Houses.RICH, Houses.RICH_ON, Houses.FULL_ON};
        for (Twin.House house : houses) {
            for (int work : new int[] {MIN, -1, 0, 3, MAX}) {
                for (int[] row : rows) {
                    char kind = row[0] == 1 ? 'c' : 'q';
                    boolean isNone = work != 0;
                    boolean isOut = row != rows[0];
                    Object due = isNone ? Check.INDEX : isOut ? Check.ARGUMENT
                        : house == Houses.RICH ? (Object) 8 : Check.STATE;
                    Twin.due(due, "addCue " + work + " " + kind + " " + row[1] + " " + row[2] + " " + row[3] + " "
                        + row[4], house, x -> x.addCue(work, kind, row[1], row[2], row[3], row[4]));
                }
            }
        }
        Twin.refused(Check.INDEX, "no work, no kind", Houses.RICH, x -> x.addCue(2, 'q', 0, 0, 1, 0));
        Twin.refused(Check.INDEX, "no work, an evening is on", Houses.RICH_ON, x -> x.addCue(2, 'c', 0, 0, 1, 0));
        Twin.refused(Check.INDEX, "all of them", Houses.FULL_ON, x -> x.addCue(3, 'q', 9, 9, 61, -1));
        Twin.refused(Check.ARGUMENT, "no kind, 9 cues", Houses.FULL, x -> x.addCue(0, 'q', 0, 0, 1, 0));
        Twin.refused(Check.ARGUMENT, "no kind, an evening is on", Houses.RICH_ON, x -> x.addCue(0, 'q', 0, 0, 1, 0));
        Twin.refused(Check.ARGUMENT, "a tenth that needs itself", Houses.FULL, x -> x.addCue(0, 'c', 0, 0, 1, 512));
        Twin.refused(Check.STATE, "9 cues, an evening is on", Houses.FULL_ON, x -> x.addCue(0, 'c', 0, 0, 1, 511));
    }

    // ---- Promise 10: cues.

    @Says(promise = 10, value = {"Returns the number of cues of a work", "Returns the number of cues"})
    static void promise10ReturnsTheNumberOfCues() {
        for (int count = 0; count <= 9; count++) {
            int cues = count;
            Twin.due(cues, cues + " cues", () -> Houses.withFreeCues(cues), x -> x.cues(0));
        }
        Twin.due(8, "of the first work", Houses.RICH, x -> x.cues(0));
        Twin.due(3, "of the second work", Houses.RICH, x -> x.cues(1));
        Twin.due(8, "while its evening is on, some being done", Houses.RICH_ON, x -> x.cues(0));
        Twin.due(3, "while another one's is on", Houses.RICH_ON, x -> x.cues(1));
    }

    @Says(promise = 10, value = {"`work`: the number of the work",
        "Throws `IndexOutOfBoundsException` if there is no such work"})
    static void promise10ThrowsIfThereIsNoSuchWork() {
        for (int work : new int[] {MIN, -1, 2, 3, MAX}) {
            Twin.refused(Check.INDEX, "the work " + work, Houses.RICH, x -> x.cues(work));
            Twin.refused(Check.INDEX, "while on, " + work, Houses.RICH_ON, x -> x.cues(work));
        }
        Twin.due(9, "the last of 3", Houses.FULL, x -> x.cues(2));
        Twin.refused(Check.INDEX, "the work 3", Houses.FULL, x -> x.cues(3));
        Twin.refused(Check.INDEX, "none at all", Houses.NEW, x -> x.cues(0));
    }
}
