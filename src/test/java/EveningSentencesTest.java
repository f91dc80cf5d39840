/** Promises 16 to 24, sentence by sentence. */
public final class EveningSentencesTest {
    private static final int MIN = Houses.MIN;
    private static final int MAX = Houses.MAX;
    /** Numbers that no cue, role, person or machine has. */
    private static final int[] NO_NUMBERS = {MIN, -2, -1, 10, 11, MAX};

    public static void main(String[] args) throws ReflectiveOperationException {
        Sentences.run(EveningSentencesTest.class);
    }

    private static Theatrehouse freeCuesOn(int count) {
        Theatrehouse x = Houses.withFreeCues(count);
        x.begin();
        return x;
    }

    private static Theatrehouse ended() {
        Theatrehouse x = Houses.richOn();
        x.end();
        return x;
    }

    /** The calls that need an evening, without one: ahead of it, behind it, and where nothing is there at all. */
    private static void needsAnEvening(Twin.Ask call) {
        Twin.refused(Check.STATE, "a new house", Houses.NEW, call);
        Twin.refused(Check.STATE, "planned for today", Houses.RICH, call);
        Twin.refused(Check.STATE, "it has ended", EveningSentencesTest::ended, call);
        Twin.refused(Check.STATE, "the day behind it", () -> {
            Theatrehouse x = ended();
            x.pass(1);
            return x;
        }, call);
    }

    // ---- Promise 16: perform.

    @Says(promise = 16, value = "Does a cue")
    static void promise16DoesACue() {
        Theatrehouse x = freeCuesOn(3);
        x.perform(1);
        Check.due('d', "it is done", () -> x.obstacle(1));
        Check.due('-', "no other", () -> x.obstacle(0));
        Check.due('-', "is", () -> x.obstacle(2));
        Check.due(2, "the others are left", () -> x.farthest());
        Check.due(1, "it is the last one", () -> x.takeBack());
    }

    @Says(promise = 16, value = "`cue`: the number of the cue")
    static void promise16CueIsANumber() {
        for (int count = 0; count <= 9; count++) {
            int cues = count;
            Twin.House on = () -> freeCuesOn(cues);
            Twin.refused(Check.INDEX, "the cue behind " + count, on, x -> x.perform(cues));
            if (count > 0) {
                Twin.due(1, "the first of " + count, on, x -> x.perform(0));
                Twin.due(1, "the last of " + count, on, x -> x.perform(cues - 1));
            }
        }
    }

    @Says(promise = 16, value = "Returns the minutes of the evening then")
    static void promise16ReturnsTheMinutes() {
        Theatrehouse x = Houses.withPeople(1);
        x.addWork(1, 1);
        for (int i = 0; i < 9; i++) {
            x.addCue(0, 'c', 0, 0, 60, 0);
        }
        Houses.open(x);
        for (int i = 8; i >= 0; i--) {
            int cue = i;
            Check.due(60 * (9 - cue), "cue " + i, () -> x.perform(cue));
        }
        x.takeBack();
        x.takeBack();
        Check.due(480, "those that were taken back do not count", () -> x.perform(1));
        Theatrehouse y = freeCuesOn(1);
        Check.due(1, "the least", () -> y.perform(0));
    }

    @Says(promise = 16, value = "Throws `IllegalStateException` if no evening is on")
    static void promise16ThrowsIfNoEveningIsOn() {
        needsAnEvening(x -> x.perform(0));
    }

    @Says(promise = 16, value = "Throws `IndexOutOfBoundsException` if its work has no such cue")
    static void promise16ThrowsIfThereIsNoSuchCue() {
        for (int cue : NO_NUMBERS) {
            Twin.refused(Check.INDEX, "the cue " + cue, Houses.RICH_ON, x -> x.perform(cue));
            Twin.refused(Check.INDEX, "of 9, the cue " + cue, Houses.FULL_ON, x -> x.perform(cue));
        }
        Twin.refused(Check.INDEX, "the ninth of 8", Houses.RICH_ON, x -> x.perform(8));
        Twin.refused(Check.INDEX, "the tenth of 9", Houses.FULL_ON, x -> x.perform(9));
        Twin.refused(Check.INDEX, "a cue of another work only", () -> {
            Theatrehouse x = ended();
            x.pass(1);
            x.begin();
            return x;
        }, x -> x.perform(3));
    }

    @Says(promise = 16, value = "Throws `UnsupportedOperationException` if it cannot be done")
    static void promise16ThrowsIfItCannotBeDone() {
        Twin.refused(Check.UNSUPPORTED, "n", Houses.RICH_ON, x -> x.perform(7));
        Twin.refused(Check.UNSUPPORTED, "r", () -> soloWith('r'), x -> x.perform(2));
        Twin.refused(Check.UNSUPPORTED, "p", () -> soloWith('p'), x -> x.perform(2));
        Twin.refused(Check.UNSUPPORTED, "v", () -> soloWith('v'), x -> x.perform(2));
        Twin.refused(Check.UNSUPPORTED, "k", () -> soloWith('k'), x -> x.perform(2));
        Twin.refused(Check.UNSUPPORTED, "i", () -> stageWith('i'), x -> x.perform(0));
        Twin.refused(Check.UNSUPPORTED, "u", () -> stageWith('u'), x -> x.perform(0));
        Twin.refused(Check.UNSUPPORTED, "o", () -> stageWith('o'), x -> x.perform(0));
        Twin.refused(Check.UNSUPPORTED, "s", () -> stageWith('s'), x -> x.perform(0));
        Twin.refused(Check.UNSUPPORTED, "s of a light", () -> {
            Theatrehouse x = Houses.withPeople(1);
            x.addWork(1, 1);
            x.addCue(0, 'l', 0, 0, 1, 0);
            Houses.open(x);
            return x;
        }, x -> x.perform(0));
    }

    /** The cue 2 is a song that cannot be sung, for this reason. */
    private static Theatrehouse soloWith(char why) {
        Theatrehouse x = new Theatrehouse();
        x.addPerson(4, 10);
        x.addWork(1, 1);
        x.addCue(0, 'e', 0, 2, 1, 0);
        x.addCue(0, 'l', 2, 1, 1, 0);
        x.addCue(0, 's', 0, why == 'v' ? 11 : 10, 1, 0);
        if (why == 'r') {
            x.fallIll(0, 1);
        }
        Houses.open(x);
        if (why == 'v' || why == 'k') {
            x.perform(0);
        }
        if (why != 'k') {
            x.perform(1);
        }
        return x;
    }

    /** The cue 0 moves a machine that cannot be moved, for this reason and no other. */
    private static Theatrehouse stageWith(char why) {
        Theatrehouse x = Houses.withPeople(1);
        x.addMachine(2, why == 'o' ? 0 : 9);
        x.addMachine(3, 9);
        x.setInterlock(0, 1, why == 'i' ? 1 : 0, 7);
        x.addWork(1, 1);
        x.addCue(0, 'm', 0, why == 's' ? 0 : 1, 1, 0);
        x.addCue(0, 'e', 0, 2, 1, 0);
        x.addCue(0, 'c', 2, 0, 1, 0);
        Houses.open(x);
        if (why == 'u' || why == 'o') {
            x.perform(1);
        }
        if (why == 'o') {
            x.perform(2);
        }
        return x;
    }

    @Says(promise = 16, value = "or was done")
    static void promise16ThrowsIfItWasDone() {
        for (int cue = 0; cue < 4; cue++) {
            int done = cue;
            Twin.refused(Check.UNSUPPORTED, "cue " + cue, Houses.RICH_ON, x -> x.perform(done));
        }
        Theatrehouse x = freeCuesOn(9);
        for (int i = 0; i < 9; i++) {
            int cue = i;
            x.perform(cue);
            Check.due(Check.UNSUPPORTED, "cue " + i + " twice", () -> x.perform(cue));
        }
        Check.due(8, "the last one is taken back", () -> x.takeBack());
        Check.due(9, "and can be done again", () -> x.perform(8));
    }

    @Says(promise = 16, value = {"Throws `IllegalStateException` if", "Throws `IndexOutOfBoundsException` if",
        "Throws `UnsupportedOperationException` if"})
    static void promise16ListedFirst() {
        for (int cue : NO_NUMBERS) {
            needsAnEvening(x -> x.perform(cue));
        }
        for (int cue = -1; cue <= 9; cue++) {
            int of = cue;
            Object due = cue < 0 || cue > 7 ? Check.INDEX : cue < 4 || cue > 5 ? Check.UNSUPPORTED
                : (Object) (cue == 4 ? 125 : 66);
            Twin.due(due, "perform " + cue, Houses.RICH_ON, x -> x.perform(of));
            Twin.due(Check.STATE, "none is on, perform " + cue, Houses.RICH, x -> x.perform(of));
            Twin.due(Check.STATE, "it has ended, perform " + cue, EveningSentencesTest::ended, x -> x.perform(of));
        }
    }

    // ---- Promise 17: obstacle.

    @Says(promise = 17, value = {"Returns why a cue cannot be done now", "'-' it can be done"})
    static void promise17ItCanBeDone() {
        Theatrehouse x = freeCuesOn(9);
        for (int i = 0; i < 9; i++) {
            int cue = i;
            Check.due('-', "cue " + i, () -> x.obstacle(cue));
        }
        Theatrehouse y = Houses.withRoles(1);
        y.addMachine(0, 0);
        y.addCue(0, 'e', 0, 1, 1, 0);
        y.addCue(0, 'l', 1, 1, 1, 0);
        y.addCue(0, 's', 0, 20, 1, 0);
        y.addCue(0, 'g', 0, 0, 1, 0);
        y.addCue(0, 'x', 0, 0, 1, 0);
        y.addCue(0, 'c', 1, 0, 1, 0);
        y.addCue(0, 'm', 0, 1, 1, 0);
        Houses.open(y);
        Check.due('-', "e", () -> y.obstacle(0));
        Check.due('-', "l", () -> y.obstacle(1));
        Check.due('-', "c", () -> y.obstacle(5));
        Check.due('-', "m", () -> y.obstacle(6));
        Houses.perform(y, 0, 1);
        Check.due('-', "s", () -> y.obstacle(2));
        Check.due('-', "g", () -> y.obstacle(3));
        Check.due('-', "x", () -> y.obstacle(4));
    }

    @Says(promise = 17, value = "`cue`: the number of the cue")
    static void promise17CueIsANumber() {
        for (int count = 0; count <= 9; count++) {
            int cues = count;
            Twin.House on = () -> freeCuesOn(cues);
            Twin.refused(Check.INDEX, "the cue behind " + count, on, x -> x.obstacle(cues));
            if (count > 0) {
                Twin.due('-', "the first of " + count, on, x -> x.obstacle(0));
                Twin.due('-', "the last of " + count, on, x -> x.obstacle(cues - 1));
            }
        }
    }

    @Says(promise = 17, value = "'d' it was done")
    static void promise17Done() {
        for (int i = 0; i < 4; i++) {
            int cue = i;
            Twin.due('d', "cue " + i, Houses.RICH_ON, x -> x.obstacle(cue));
        }
        Theatrehouse x = freeCuesOn(1);
        x.perform(0);
        Check.due('d', "done", () -> x.obstacle(0));
        x.takeBack();
        Check.due('-', "taken back", () -> x.obstacle(0));
    }

    @Says(promise = 17, value = "'n' a cue that must be done ahead is missing")
    static void promise17Needs() {
        for (int needs = 0; needs < 256; needs++) {
            int bits = needs;
            Theatrehouse x = Houses.withFreeCues(8);
            x.addCue(0, 'c', 0, 0, 1, needs);
            x.begin();
            int left = Integer.bitCount(needs);
            for (int cue = 7; cue >= 0; cue--) {
                Check.due(left == 0 ? '-' : 'n', left + " missing of " + bits, () -> x.obstacle(8));
                x.perform(cue);
                left -= needs >> cue & 1;
            }
            Check.due('-', "none missing of " + bits, () -> x.obstacle(8));
        }
    }

    @Says(promise = 17, value = "'r' its role has no singer")
    static void promise17NoSinger() {
        for (char kind : new char[] {'e', 'g', 'x', 's'}) {
            for (int role = 0; role < 5; role++) {
                Theatrehouse x = Houses.withRoles(5);
                x.addCue(0, kind, role, kind == 's' ? 1 : 0, 1, 0);
                x.fallIll(role, 1);
                Houses.open(x);
                Check.due('r', kind + " of the role " + role, () -> x.obstacle(0));
                x.end();
                x.pass(1);
                Houses.open(x);
                Check.due(kind == 'e' ? '-' : 'p', kind + " when well again", () -> x.obstacle(0));
            }
        }
        for (char kind : new char[] {'c', 'm', 'l'}) {
            Theatrehouse x = Houses.withRoles(1);
            x.addMachine(0, 0);
            x.addCue(0, kind, 0, kind == 'c' ? 0 : 1, 1, 0);
            x.fallIll(0, 1);
            Houses.open(x);
            Check.due('-', kind + " is of no role", () -> x.obstacle(0));
        }
    }

    @Says(promise = 17, value = "'p' its singer is not where this is needed")
    static void promise17Place() {
        Theatrehouse x = Houses.withRoles(1);
        for (int zone = 0; zone < 5; zone++) {
            x.addCue(0, 'g', 0, zone, 1, 0);
        }
        x.addCue(0, 'e', 0, 3, 1, 0);
        x.addCue(0, 'e', 0, 0, 1, 0);
        x.addCue(0, 'x', 0, 0, 1, 0);
        x.addCue(0, 's', 0, 1, 1, 0);
        Houses.open(x);
        expect(x, "off the stage", "ppppp--pp");
        x.perform(5);
        expect(x, "in the zone 3", "---p-dp-k");
        x.perform(0);
        expect(x, "in the zone 0", "d----dp-k");
        x.perform(4);
        expect(x, "in the zone 4", "d---ddp-k");
        x.perform(7);
        expect(x, "off the stage again", "dpppdd-dp");
        x.perform(6);
        expect(x, "on the stage again", "d---ddddk");
    }

    private static void expect(Theatrehouse x, String what, String obstacles) {
        for (int i = 0; i < obstacles.length(); i++) {
            int cue = i;
            Check.due(obstacles.charAt(i), what + ", cue " + i, () -> x.obstacle(cue));
        }
    }

    @Says(promise = 17, value = "'i' the interlock")
    static void promise17Interlock() {
        Theatrehouse x = Houses.withRoles(1);
        x.addMachine(0, 9);
        x.addMachine(1, 9);
        x.setInterlock(0, 1, 2, 3);
        x.addCue(0, 'm', 0, 1, 1, 0);
        for (int place = 1; place < 8; place++) {
            x.addCue(0, 'm', 1, place, 1, 0);
        }
        Houses.open(x);
        Check.due('i', "at 0", () -> x.obstacle(0));
        for (int place = 1; place < 8; place++) {
            x.perform(place);
            Check.due(place == 2 || place == 3 ? '-' : 'i', "at " + place, () -> x.obstacle(0));
        }
        Check.due('-', "the other one has none", () -> {
            x.takeBack();
            return x.obstacle(7);
        });
    }

    @Says(promise = 17, value = "'u' somebody in the zone was not told clear")
    static void promise17NotToldClear() {
        for (int told = 0; told < 32; told++) {
            Theatrehouse x = Houses.withRoles(5);
            x.addMachine(4, 9);
            x.addCue(0, 'm', 0, 1, 1, 0);
            x.addCue(0, 'c', 4, 0, 1, 0);
            for (int role = 0; role < 5; role++) {
                x.addCue(0, 'e', role, 4, 1, 0);
            }
            Houses.open(x);
            for (int role = 0; role < 5; role++) {
                if ((told >> role & 1) == 1) {
                    x.perform(2 + role);
                }
            }
            x.perform(1);
            Check.due('-', "all were told", () -> x.obstacle(0));
            for (int role = 0; role < 5; role++) {
                if ((told >> role & 1) == 0) {
                    x.perform(2 + role);
                    Check.due('u', "told " + told + ", and the role " + role + " was not", () -> x.obstacle(0));
                    x.takeBack();
                }
            }
        }
        Theatrehouse other = Houses.withRoles(1);
        other.addMachine(4, 9);
        other.addCue(0, 'm', 0, 1, 1, 0);
        other.addCue(0, 'e', 0, 3, 1, 0);
        Houses.open(other);
        other.perform(1);
        Check.due('-', "in another zone", () -> other.obstacle(0));
    }

    @Says(promise = 17, value = "'o' the limit")
    static void promise17Limit() {
        for (int limit = 0; limit < 10; limit++) {
            Theatrehouse x = Houses.withRoles(5);
            x.addMachine(4, limit);
            for (int role = 0; role < 5; role++) {
                x.addCue(0, 'e', role, 4, 1, 0);
            }
            x.addCue(0, 'c', 4, 0, 1, 0);
            x.addCue(0, 'm', 0, 1, 1, 0);
            Houses.open(x);
            for (int people = 0; people <= 5; people++) {
                x.perform(5);
                Check.due(people > limit ? 'o' : '-', people + " under the limit " + limit, () -> x.obstacle(6));
                x.takeBack();
                if (people < 5) {
                    x.perform(people);
                }
            }
        }
    }

    @Says(promise = 17, value = "'v' the voice")
    static void promise17Voice() {
        for (int voice = 1; voice <= 30; voice++) {
            for (int needed : new int[] {1, voice - 1, voice, voice + 1, 30}) {
                if (needed >= 1 && needed <= 30) {
                    Theatrehouse x = EveningTest.singing(voice, needed);
                    Houses.perform(x, 0, 1);
                    Check.due(needed > voice ? 'v' : '-', needed + " of " + voice, () -> x.obstacle(2));
                }
            }
        }
    }

    @Says(promise = 17, value = "'k' no light")
    static void promise17Light() {
        Theatrehouse x = Houses.withRoles(1);
        x.addCue(0, 's', 0, 1, 1, 0);
        x.addCue(0, 'e', 0, 4, 1, 0);
        x.addCue(0, 'l', 3, 3, 1, 0);
        x.addCue(0, 'l', 4, 1, 1, 0);
        x.addCue(0, 'l', 4, 2, 1, 0);
        x.addCue(0, 'l', 4, 3, 1, 0);
        x.addCue(0, 'l', 4, 0, 1, 0);
        Houses.open(x);
        Houses.perform(x, 1, 2);
        Check.due('k', "light in another zone", () -> x.obstacle(0));
        for (int light = 1; light <= 3; light++) {
            x.perform(2 + light);
            Check.due('-', "the light " + light, () -> x.obstacle(0));
        }
        x.perform(6);
        Check.due('k', "the light 0", () -> x.obstacle(0));
        for (int zone = 0; zone < 5; zone++) {
            Theatrehouse y = Houses.withRoles(1);
            y.addCue(0, 's', 0, 1, 1, 0);
            y.addCue(0, 'e', 0, zone, 1, 0);
            for (int i = 1; i < 5; i++) {
                y.addCue(0, 'l', (zone + i) % 5, i < 4 ? i : 3, 1, 0);
            }
            y.addCue(0, 'l', zone, 2, 1, 0);
            Houses.open(y);
            Houses.perform(y, 1, 2, 3, 4, 5);
            Check.due('k', "light in all zones but " + zone, () -> y.obstacle(0));
            y.perform(6);
            Check.due('-', "light in the zone " + zone + ", too", () -> y.obstacle(0));
        }
    }

    @Says(promise = 17, value = "'s' a machine or light is there already")
    static void promise17ThereAlready() {
        for (int at = 0; at < 8; at++) {
            Theatrehouse x = Houses.withRoles(1);
            x.addMachine(0, 9);
            for (int place = 0; place < 8; place++) {
                x.addCue(0, 'm', 0, place, 1, 0);
            }
            x.addCue(0, 'm', 0, at, 1, 0);
            Houses.open(x);
            if (at > 0) {
                x.perform(at);
            }
            for (int place = 0; place < 8; place++) {
                int cue = place;
                Check.due(place != at ? '-' : at == 0 ? 's' : 'd', "from " + at + " to " + place,
                    () -> x.obstacle(cue));
            }
            Check.due('s', "from " + at + " to the same", () -> x.obstacle(8));
        }
        for (int is = 0; is < 4; is++) {
            Theatrehouse x = Houses.withRoles(1);
            for (int light = 0; light < 8; light++) {
                x.addCue(0, 'l', 2, light % 4, 1, 0);
            }
            Houses.open(x);
            if (is > 0) {
                x.perform(is);
            }
            for (int light = 0; light < 4; light++) {
                int cue = 4 + light;
                Check.due(light == is ? 's' : '-', "from the light " + is + " to " + light, () -> x.obstacle(cue));
            }
        }
    }

    @Says(promise = 17, value = "Returns the first one of these that applies")
    static void promise17TheFirstOneThatApplies() {
        missingAheadOfAll();
        doneAheadOfAll();
        Theatrehouse off = EveningTest.singing(5, 6);
        Check.due('p', "p ahead of v and k", () -> off.obstacle(2));
        off.perform(0);
        Check.due('v', "v ahead of k", () -> off.obstacle(2));

        Theatrehouse x = Houses.withRoles(2);
        x.addMachine(2, 1);
        x.addMachine(3, 9);
        x.setInterlock(0, 1, 1, 7);
        x.addCue(0, 'm', 0, 0, 1, 0);
        x.addCue(0, 'e', 0, 2, 1, 0);
        x.addCue(0, 'e', 1, 2, 1, 0);
        x.addCue(0, 'm', 1, 1, 1, 0);
        x.addCue(0, 'c', 2, 0, 1, 0);
        x.addCue(0, 'x', 1, 0, 1, 0);
        Houses.open(x);
        Check.due('i', "i ahead of s", () -> x.obstacle(0));
        Houses.perform(x, 1, 2);
        Check.due('i', "i ahead of u, o and s", () -> x.obstacle(0));
        x.perform(4);
        Check.due('i', "i ahead of o and s", () -> x.obstacle(0));
        x.takeBack();
        x.perform(3);
        Check.due('u', "u ahead of o and s", () -> x.obstacle(0));
        x.perform(4);
        Check.due('o', "o ahead of s", () -> x.obstacle(0));
        x.perform(5);
        Check.due('s', "s alone", () -> x.obstacle(0));
        x.takeBack();
        x.takeBack();
        x.perform(5);
        Check.due('u', "u ahead of s", () -> x.obstacle(0));
    }

    private static void missingAheadOfAll() {
        Theatrehouse ill = Houses.withRoles(1);
        ill.addCue(0, 'c', 0, 0, 1, 0);
        ill.addCue(0, 'e', 0, 0, 1, 1);
        ill.fallIll(0, 1);
        Houses.open(ill);
        Check.due('n', "n ahead of r", () -> ill.obstacle(1));
        ill.perform(0);
        Check.due('r', "r alone", () -> ill.obstacle(1));

        Theatrehouse x = Houses.withRoles(1);
        x.addMachine(0, 0);
        x.addMachine(1, 9);
        x.setInterlock(0, 1, 1, 7);
        x.addCue(0, 'e', 0, 0, 1, 0);
        x.addCue(0, 'c', 4, 0, 1, 0);
        x.addCue(0, 'x', 0, 0, 1, 2);
        x.addCue(0, 'm', 0, 0, 1, 2);
        x.addCue(0, 's', 0, 30, 1, 2);
        x.addCue(0, 'l', 0, 0, 1, 2);
        Houses.open(x);
        Check.due('n', "n ahead of p", () -> x.obstacle(2));
        Check.due('n', "n ahead of i and s", () -> x.obstacle(3));
        Check.due('n', "n ahead of s", () -> x.obstacle(5));
        x.perform(0);
        Check.due('n', "n ahead of i, u, o and s", () -> x.obstacle(3));
        Check.due('n', "n ahead of v and k", () -> x.obstacle(4));
        x.perform(1);
        expect(x, "what was behind n", "dd-ivs");
    }

    private static void doneAheadOfAll() {
        Theatrehouse x = Houses.withRoles(1);
        x.addMachine(0, 0);
        x.addMachine(1, 9);
        x.setInterlock(0, 1, 0, 0);
        x.addCue(0, 'm', 0, 1, 1, 0);
        x.addCue(0, 'm', 1, 1, 1, 0);
        x.addCue(0, 'e', 0, 0, 1, 0);
        x.addCue(0, 'l', 0, 1, 1, 0);
        x.addCue(0, 's', 0, 15, 1, 0);
        x.addCue(0, 'l', 0, 0, 1, 0);
        Houses.open(x);
        Houses.perform(x, 0, 1, 2, 3, 4, 5);
        expect(x, "d ahead of i, u, o and s, of p, of v and k, and of s", "dddddd");
    }

    @Says(promise = 17, value = "Throws `IllegalStateException` if no evening is on")
    static void promise17ThrowsIfNoEveningIsOn() {
        needsAnEvening(x -> x.obstacle(0));
    }

    @Says(promise = 17, value = "Throws `IndexOutOfBoundsException` if its work has no such cue")
    static void promise17ThrowsIfThereIsNoSuchCue() {
        for (int cue : NO_NUMBERS) {
            Twin.refused(Check.INDEX, "the cue " + cue, Houses.RICH_ON, x -> x.obstacle(cue));
            Twin.refused(Check.INDEX, "of 9, the cue " + cue, Houses.FULL_ON, x -> x.obstacle(cue));
        }
        Twin.refused(Check.INDEX, "the ninth of 8", Houses.RICH_ON, x -> x.obstacle(8));
        Twin.refused(Check.INDEX, "the tenth of 9", Houses.FULL_ON, x -> x.obstacle(9));
    }

    @Says(promise = 17, value = {"Throws `IllegalStateException` if", "Throws `IndexOutOfBoundsException` if"})
    static void promise17ListedFirst() {
        for (int cue : NO_NUMBERS) {
            needsAnEvening(x -> x.obstacle(cue));
        }
    }

    // ---- Promise 18: takeBack.

    @Says(promise = 18, value = "Takes the last cue back")
    static void promise18TakesTheLastCueBack() {
        for (char kind : new char[] {'e', 'g', 'x', 'c', 'm', 's', 'l'}) {
            Twin.House ahead = () -> aheadOf(kind);
            for (int part = 0; part < Probe.PARTS; part++) {
                Theatrehouse x = ahead.make();
                x.perform(4);
                x.takeBack();
                String due = Probe.part(part, ahead.make());
                int of = part;
                Check.due(due, kind + " leaves nothing behind, part " + part, () -> Probe.part(of, x));
            }
        }
    }

    /** One who stands in a lit zone and was told clear, and a cue 4 of this kind that can be done. */
    private static Theatrehouse aheadOf(char kind) {
        Theatrehouse x = Houses.withRoles(2);
        x.addMachine(2, 9);
        x.addCue(0, 'e', 0, 2, 10, 0);
        x.addCue(0, 'l', 2, 3, 10, 0);
        x.addCue(0, 'c', 2, 0, 10, 0);
        x.addCue(0, 'l', 4, 1, 10, 0);
        x.addCue(0, kind, kind == 'e' ? 1 : kind == 'c' || kind == 'l' ? 2 : 0, kind == 'x' || kind == 'c' ? 0 : 1, 30,
            0);
        Houses.open(x);
        Houses.perform(x, 0, 1, 2, 3);
        return x;
    }

    @Says(promise = 18, value = "with its minutes")
    static void promise18WithItsMinutes() {
        Theatrehouse x = Houses.withPeople(1);
        x.addWork(1, 1);
        int[] minutes = {1, 60, 2, 59, 30};
        for (int i = 0; i < 5; i++) {
            x.addCue(0, 'c', 0, 0, minutes[i], 0);
        }
        Houses.open(x);
        Houses.perform(x, 3, 1, 4, 0, 2);
        int[] due = {150, 149, 119, 59, 0};
        Check.due(152, "all", () -> x.minutes());
        for (int i = 0; i < 5; i++) {
            int step = i;
            x.takeBack();
            Check.due(due[step], "step " + i, () -> x.minutes());
        }
    }

    @Says(promise = 18, value = "Returns its number")
    static void promise18ReturnsItsNumber() {
        Theatrehouse x = freeCuesOn(9);
        int[] row = {4, 0, 8, 2, 6, 1, 3, 7, 5};
        Houses.perform(x, row);
        for (int i = 8; i >= 0; i--) {
            int step = i;
            Check.due(row[step], "step " + i, () -> x.takeBack());
        }
        Houses.perform(x, 3, 8);
        x.takeBack();
        x.perform(0);
        Check.due(0, "the one done in place of it", () -> x.takeBack());
        Check.due(3, "the one ahead", () -> x.takeBack());
    }

    @Says(promise = 18, value = "Throws `IllegalStateException` if no evening is on")
    static void promise18ThrowsIfNoEveningIsOn() {
        needsAnEvening(x -> x.takeBack());
    }

    @Says(promise = 18, value = "Throws `NoSuchElementException` if none was done")
    static void promise18ThrowsIfNoneWasDone() {
        Twin.refused(Check.ELEMENT, "none at all", Houses::onWithoutCues, x -> x.takeBack());
        Twin.refused(Check.ELEMENT, "none yet", () -> freeCuesOn(9), x -> x.takeBack());
        Twin.refused(Check.ELEMENT, "all were taken back", () -> {
            Theatrehouse x = freeCuesOn(2);
            Houses.perform(x, 1, 0);
            x.takeBack();
            x.takeBack();
            return x;
        }, x -> x.takeBack());
        Twin.refused(Check.ELEMENT, "none in the second evening", () -> {
            Theatrehouse x = freeCuesOn(2);
            Houses.perform(x, 1, 0);
            x.end();
            x.pass(1);
            Houses.open(x);
            return x;
        }, x -> x.takeBack());
    }

    @Says(promise = 18, value = {"Throws `IllegalStateException` if", "Throws `NoSuchElementException` if"})
    static void promise18ListedFirst() {
        Twin.refused(Check.STATE, "none was done, and none is on", () -> Houses.withFreeCues(1), x -> x.takeBack());
        Twin.refused(Check.STATE, "an evening without a cue that was done has ended", () -> {
            Theatrehouse x = freeCuesOn(1);
            x.end();
            return x;
        }, x -> x.takeBack());
    }

    // ---- Promise 19: end.

    @Says(promise = 19, value = "Ends the evening")
    static void promise19EndsTheEvening() {
        Theatrehouse x = Houses.richOn();
        x.end();
        Check.due(Check.STATE, "it is not on", () -> x.minutes());
        Check.due(Check.ELEMENT, "it does not begin again", () -> x.begin());
        Check.due(1, "it has ended", () -> x.evenings());
        Check.due(65.0, "with its minutes", () -> x.meanMinutes());
        Check.due(1, "the next day can come", () -> x.pass(1));
    }

    @Says(promise = 19, value = "Returns the number of cues that were not done")
    static void promise19ReturnsTheNumberOfCuesNotDone() {
        for (int count = 0; count <= 9; count++) {
            for (int done = 0; done <= count; done++) {
                int cues = done;
                int left = count - done;
                Theatrehouse x = freeCuesOn(count);
                for (int cue = 0; cue < cues; cue++) {
                    x.perform(cue);
                }
                Check.due(left, done + " of " + count, () -> x.end());
            }
        }
        Theatrehouse x = freeCuesOn(9);
        Houses.perform(x, 0, 1, 2);
        x.takeBack();
        Check.due(7, "one was taken back", () -> x.end());
    }

    @Says(promise = 19, value = "Throws `IllegalStateException` if no evening is on")
    static void promise19ThrowsIfNoEveningIsOn() {
        needsAnEvening(x -> x.end());
    }

    // ---- Promise 20: singer.

    @Says(promise = 20, value = {"Returns the singer of a role", "Returns the number of the person"})
    static void promise20ReturnsTheSinger() {
        Theatrehouse x = Houses.withPeople(10);
        x.addWork(5, 1);
        int[] people = {9, 0, 5, 1, 8};
        for (int role = 0; role < 5; role++) {
            x.setRole(0, role, people[role]);
        }
        Houses.open(x);
        for (int i = 0; i < 5; i++) {
            int role = i;
            Check.due(people[role], "the role " + i, () -> x.singer(role));
        }
    }

    @Says(promise = 20, value = "`role`: the role")
    static void promise20RoleIsOfTheWork() {
        for (int roles = 1; roles <= 5; roles++) {
            int count = roles;
            Twin.House on = () -> {
                Theatrehouse x = Houses.withRoles(count);
                Houses.open(x);
                return x;
            };
            Twin.due(0, "the first of " + roles, on, x -> x.singer(0));
            Twin.due(roles - 1, "the last of " + roles, on, x -> x.singer(count - 1));
            Twin.refused(Check.INDEX, "the role behind " + roles, on, x -> x.singer(count));
        }
    }

    @Says(promise = 20, value = "Throws `IllegalStateException` if no evening is on")
    static void promise20ThrowsIfNoEveningIsOn() {
        needsAnEvening(x -> x.singer(0));
    }

    @Says(promise = 20, value = "Throws `IndexOutOfBoundsException` if its work has no such role")
    static void promise20ThrowsIfThereIsNoSuchRole() {
        for (int role : new int[] {MIN, -1, 3, 4, 5, 6, MAX}) {
            Twin.refused(Check.INDEX, "the role " + role, Houses.RICH_ON, x -> x.singer(role));
        }
        for (int role : new int[] {MIN, -1, 5, 6, MAX}) {
            Twin.refused(Check.INDEX, "of 5, the role " + role, Houses.FULL_ON, x -> x.singer(role));
        }
    }

    /** The roles 0 and 2 have no singer: ill without a cover, and ill with a cover who is ill. */
    private static Theatrehouse withoutSingers() {
        Theatrehouse x = Houses.withRoles(3);
        x.addPerson(1, 1);
        x.setCover(2, 3);
        x.fallIll(0, 1);
        x.fallIll(2, 2);
        x.fallIll(3, 1);
        Houses.open(x);
        return x;
    }

    @Says(promise = 20, value = "Throws `NoSuchElementException` if it has none")
    static void promise20ThrowsIfItHasNone() {
        Twin.refused(Check.ELEMENT, "ill, without a cover", () -> withoutSingers(), x -> x.singer(0));
        Twin.refused(Check.ELEMENT, "ill, the cover being ill", () -> withoutSingers(), x -> x.singer(2));
        Twin.due(1, "well", () -> withoutSingers(), x -> x.singer(1));
        Theatrehouse x = withoutSingers();
        x.end();
        x.pass(1);
        Houses.open(x);
        Check.due(3, "ill, the cover being well again", () -> x.singer(2));
        Check.due(0, "well again", () -> x.singer(0));
    }

    @Says(promise = 20, value = {"Throws `IllegalStateException` if", "Throws `IndexOutOfBoundsException` if",
        "Throws `NoSuchElementException` if"})
    static void promise20ListedFirst() {
        for (int role : NO_NUMBERS) {
            needsAnEvening(x -> x.singer(role));
            Twin.refused(Check.INDEX, "no role, where roles have no singer", () -> withoutSingers(),
                x -> x.singer(role));
        }
        Twin.refused(Check.INDEX, "the role 3 of 3", () -> withoutSingers(), x -> x.singer(3));
        Twin.refused(Check.STATE, "no evening is on, and no singer is well", () -> {
            Theatrehouse x = withoutSingers();
            x.end();
            return x;
        }, x -> x.singer(0));
    }

    // ---- Promise 21: zone.

    @Says(promise = 21, value = {"Returns the zone of a person", "Returns the zone, or -1 off the stage"})
    static void promise21ReturnsTheZone() {
        for (int zone = 0; zone < 5; zone++) {
            int of = zone;
            Theatrehouse x = Houses.withRoles(2);
            x.addCue(0, 'e', 1, zone, 1, 0);
            x.addCue(0, 'g', 1, (zone + 1) % 5, 1, 0);
            x.addCue(0, 'x', 1, 0, 1, 0);
            Houses.open(x);
            Check.due(-1, "off the stage", () -> x.zone(1));
            x.perform(0);
            Check.due(of, "has entered", () -> x.zone(1));
            Check.due(-1, "the other one has not", () -> x.zone(0));
            x.perform(1);
            Check.due((of + 1) % 5, "has gone", () -> x.zone(1));
            x.perform(2);
            Check.due(-1, "has left", () -> x.zone(1));
        }
    }

    @Says(promise = 21, value = "or -1 off the stage")
    static void promise21OffTheStage() {
        Theatrehouse x = Houses.withMachines(6);
        for (int i = 0; i < 10; i++) {
            x.addPerson(1, 1);
        }
        x.addWork(1, 1);
        x.setRole(0, 0, 4);
        x.addCue(0, 'e', 0, 2, 1, 0);
        for (int i = 0; i < 6; i++) {
            x.addCue(0, 'm', i, 7 - i, 1, 0);
        }
        Houses.open(x);
        Houses.perform(x, 1, 2, 3, 4, 5, 6, 0);
        for (int i = 0; i < 10; i++) {
            int person = i;
            Check.due(person == 4 ? 2 : -1, "one enters, nine have no role, and machines have moved: " + i,
                () -> x.zone(person));
        }
    }

    @Says(promise = 21, value = "`person`: the number of the person")
    static void promise21PersonIsANumber() {
        for (int i = 0; i < 10; i++) {
            int person = i;
            Twin.due(i < 2 ? i + 1 : -1, "the person " + i, Houses.FULL_ON, x -> x.zone(person));
        }
        Twin.due(1, "the first of 4", Houses.RICH_ON, x -> x.zone(0));
        Twin.due(-1, "the last of 4", Houses.RICH_ON, x -> x.zone(3));
    }

    @Says(promise = 21, value = "Throws `IllegalStateException` if no evening is on")
    static void promise21ThrowsIfNoEveningIsOn() {
        needsAnEvening(x -> x.zone(0));
    }

    @Says(promise = 21, value = "Throws `IndexOutOfBoundsException` if there is no such person")
    static void promise21ThrowsIfThereIsNoSuchPerson() {
        for (int person : NO_NUMBERS) {
            Twin.refused(Check.INDEX, "the person " + person, Houses.RICH_ON, x -> x.zone(person));
            Twin.refused(Check.INDEX, "of 10, the person " + person, Houses.FULL_ON, x -> x.zone(person));
        }
        Twin.refused(Check.INDEX, "the fifth of 4", Houses.RICH_ON, x -> x.zone(4));
        Twin.refused(Check.INDEX, "an evening without people", EveningSentencesTest::onWithoutPeople, x -> x.zone(0));
    }

    private static Theatrehouse onWithoutPeople() {
        Theatrehouse x = new Theatrehouse();
        x.addWork(1, 1);
        Houses.open(x);
        return x;
    }

    @Says(promise = 21, value = {"Throws `IllegalStateException` if", "Throws `IndexOutOfBoundsException` if"})
    static void promise21ListedFirst() {
        for (int person : NO_NUMBERS) {
            needsAnEvening(x -> x.zone(person));
        }
    }

    // ---- Promise 22: voice.

    @Says(promise = 22, value = {"Returns the voice of a person", "Returns the voice"})
    static void promise22ReturnsTheVoice() {
        Theatrehouse x = EveningTest.singing(30, 30);
        Check.due(30, "the greatest one", () -> x.voice(0));
        Houses.perform(x, 0, 1);
        Check.due(30, "ahead of the song", () -> x.voice(0));
        x.perform(2);
        Check.due(0, "all of it was sung", () -> x.voice(0));
        x.takeBack();
        Check.due(30, "taken back", () -> x.voice(0));
        x.perform(2);
        x.end();
        Check.due(0, "without an evening", () -> x.voice(0));
        for (int day = 1; day <= 11; day++) {
            int then = Math.min(30, 3 * day);
            x.pass(1);
            Check.due(then, day + " days on", () -> x.voice(0));
        }
        Check.due(20, "in a house where no evening was", () -> Houses.withPeople(1).voice(0));
    }

    @Says(promise = 22, value = {"`person`: the number of the person",
        "Throws `IndexOutOfBoundsException` if there is no such person"})
    static void promise22ThrowsIfThereIsNoSuchPerson() {
        for (int count = 0; count <= 10; count++) {
            int people = count;
            Twin.House house = () -> Houses.withPeople(people);
            for (int person : new int[] {MIN, -1, count, count + 1, MAX}) {
                Twin.refused(Check.INDEX, "the person " + person + " of " + count, house, x -> x.voice(person));
            }
            if (count > 0) {
                Twin.due(20, "the first of " + count, house, x -> x.voice(0));
                Twin.due(19 + count, "the last of " + count, house, x -> x.voice(people - 1));
            }
        }
        Twin.refused(Check.INDEX, "while an evening is on", Houses.RICH_ON, x -> x.voice(4));
    }

    // ---- Promise 23: place.

    @Says(promise = 23, value = {"Returns the place of a machine", "Returns the place"})
    static void promise23ReturnsThePlace() {
        for (int machine = 0; machine < 6; machine++) {
            int moved = machine;
            Theatrehouse x = Houses.withMachines(6);
            x.addWork(1, 1);
            for (int place = 1; place < 8; place++) {
                x.addCue(0, 'm', machine, place, 1, 0);
            }
            x.addCue(0, 'm', machine, 0, 1, 0);
            Houses.open(x);
            for (int place = 1; place <= 8; place++) {
                int at = place % 8;
                x.perform(place - 1);
                for (int i = 0; i < 6; i++) {
                    int of = i;
                    Check.due(of == moved ? at : 0, "machine " + i + ", " + machine + " being moved",
                        () -> x.place(of));
                }
            }
        }
    }

    @Says(promise = 23, value = "0 without an evening")
    static void promise23ZeroWithoutAnEvening() {
        Theatrehouse x = Houses.richOn();
        Check.due(3, "moved", () -> x.place(0));
        x.end();
        Check.due(0, "it has ended", () -> x.place(0));
        x.pass(1);
        Check.due(0, "the day behind", () -> x.place(0));
        x.begin();
        Check.due(0, "another one is on", () -> x.place(0));
        Twin.due(0, "ahead of it", Houses.RICH, y -> y.place(0));
        Twin.due(0, "the last machine", Houses.RICH, y -> y.place(2));
    }

    @Says(promise = 23, value = {"`machine`: the number of the machine",
        "Throws `IndexOutOfBoundsException` if there is no such machine"})
    static void promise23ThrowsIfThereIsNoSuchMachine() {
        for (int count = 0; count <= 6; count++) {
            int machines = count;
            Twin.House house = () -> Houses.withMachines(machines);
            for (int machine : new int[] {MIN, -1, count, count + 1, MAX}) {
                Twin.refused(Check.INDEX, "the machine " + machine + " of " + count, house, x -> x.place(machine));
            }
            if (count > 0) {
                Twin.due(0, "the first of " + count, house, x -> x.place(0));
                Twin.due(0, "the last of " + count, house, x -> x.place(machines - 1));
            }
        }
        for (int machine : new int[] {MIN, -1, 3, 4, 6, MAX}) {
            Twin.refused(Check.INDEX, "while an evening is on, " + machine, Houses.RICH_ON, x -> x.place(machine));
        }
        Twin.refused(Check.INDEX, "the seventh of 6, on", Houses.FULL_ON, x -> x.place(6));
    }

    // ---- Promise 24: minutes.

    @Says(promise = 24, value = {"Returns the minutes of the evening", "Returns the minutes"})
    static void promise24ReturnsTheMinutes() {
        Twin.due(0, "none at all", Houses::onWithoutCues, x -> x.minutes());
        Twin.due(0, "none yet", () -> freeCuesOn(9), x -> x.minutes());
        Twin.due(65, "some", Houses.RICH_ON, x -> x.minutes());
        Theatrehouse x = Houses.withPeople(1);
        x.addWork(1, 1);
        for (int i = 0; i < 9; i++) {
            x.addCue(0, 'c', 0, 0, 60, 0);
        }
        Houses.open(x);
        for (int i = 0; i < 9; i++) {
            int done = i + 1;
            x.perform(i);
            Check.due(60 * done, done + " cues of 60", () -> x.minutes());
        }
        x.end();
        x.pass(1);
        Houses.open(x);
        Check.due(0, "none in the next evening", () -> x.minutes());
    }

    @Says(promise = 24, value = "Throws `IllegalStateException` if no evening is on")
    static void promise24ThrowsIfNoEveningIsOn() {
        needsAnEvening(x -> x.minutes());
    }
}
