import java.io.IOException;
import java.nio.file.Files;
import java.nio.file.Path;

/** The sections 'What it is' and 'Terms', sentence by sentence. */
public final class TermsSentencesTest {
    private static final int MIN = Houses.MIN;
    private static final int MAX = Houses.MAX;

    public static void main(String[] args) throws ReflectiveOperationException {
        Sentences.run(TermsSentencesTest.class);
    }

    private static Theatrehouse on(int limit0, int limit1, String cues, int... done) {
        Theatrehouse x = OrdersSentencesTest.staged(limit0, limit1, cues);
        x.begin();
        Houses.perform(x, done);
        return x;
    }

    private static void expect(Theatrehouse x, String what, String obstacles) {
        for (int i = 0; i < obstacles.length(); i++) {
            int cue = i;
            Check.due(obstacles.charAt(i), what + ", cue " + i, () -> x.obstacle(cue));
        }
    }

    // ---- What it is.

    @Says({"An opera house through a season: works with roles and cues",
        "people with voices that tire, covers and illness",
        "machines on a stage with zones, loads and interlocks, light",
        "evenings on which cues are done in an order that must be legal, orders that are found or told to be none",
        "tickets, pay and books"})
    static void termsAnOperaHouseThroughASeason() {
        Theatrehouse x = Houses.rich();
        evening(x, "1 3 0 2 4 5 6 7", "0 2 0", 153);
        Check.due(-70, "50 for tickets, less 80 for a song, less 20 for each of two who entered", () -> x.balance(0));
        Check.due(1, "the next day", () -> x.pass(1));
        evening(x, "0 1 2", "2 0", 150);
        Check.due(6, "21 for tickets, less 15 for one who entered", () -> x.balance(1));
        Check.due(2, "the day behind", () -> x.pass(1));
        Check.due(Check.ELEMENT, "no evening", () -> x.begin());
        Check.due(18, "the voice comes back", () -> x.voice(0));
        Check.due(3, "the last day", () -> x.pass(1));
        evening(x, "1 3 0 2 4 5 6 7", "0 1 0", 153);
        Check.due(-190, "no tickets, and the same pay once more", () -> x.balance(0));
        Check.due(12, "the voice that is left", () -> x.voice(0));
        Check.due(16, "the voice that was sung", () -> x.sung(0));
        Check.due(3, "three evenings", () -> x.evenings());
        Check.due((float) 8 / (float) 90, "their tickets", () -> x.soldShare());
        Check.due(152.0, "their minutes", () -> x.meanMinutes());
    }

    /** An evening by its first order. */
    private static void evening(Theatrehouse x, String order, String singers, int minutes) {
        String[] row = order.split(" ");
        String[] due = singers.split(" ");
        String day = "the day " + x.day();
        Check.due(row.length, day + " begins", () -> x.begin());
        for (int i = 0; i < due.length; i++) {
            int role = i;
            Check.due(due[role], day + ", the singer of the role " + i, () -> x.singer(role));
        }
        Check.due(true, day + ", an order is found", () -> x.hasOrder());
        for (String each : row) {
            Check.due(each, day + ", the first order", () -> x.orderAt(0));
            x.perform(Integer.parseInt(each));
            Check.due(true, day + ", it holds", () -> x.isConsistent());
        }
        Check.due(minutes, day + ", its minutes", () -> x.minutes());
        Check.due(0, day + " ends", () -> x.end());
    }

    @Says("An object is used for at most 512 calls after it has been made; what later calls answer is free")
    static void terms512Calls() {
        Theatrehouse quiet = new Theatrehouse();
        for (int i = 1; i < 512; i++) {
            quiet.day();
        }
        Check.due(0, "the call 512 of a new house", () -> quiet.addPerson(1, 1));
        Theatrehouse x = Houses.withPeople(1);
        x.addWork(1, 9);
        x.addCue(0, 'c', 0, 0, 60, 0);
        int calls = 3;
        for (int day = 0; day < 100; day++) {
            int today = day;
            Check.due(1, "plan, call " + calls, () -> x.plan(0, today));
            Check.due(1, "begin, call " + calls, () -> x.begin());
            Check.due(60, "perform, call " + calls, () -> x.perform(0));
            Check.due(0, "end, call " + calls, () -> x.end());
            calls += 4;
            if (day < 99) {
                Check.due(today + 1, "pass, call " + calls, () -> x.pass(1));
                calls++;
            }
        }
        for (; calls < 510; calls++) {
            Check.due(100, "call " + calls, () -> x.evenings());
        }
        Check.due(60.0, "the call 511", () -> x.meanMinutes());
        Check.due(0f, "the call 512", () -> x.soldShare());
    }

    // ---- Terms.

    @Says("No machine moves over a person who was not told clear")
    static void termsNoMachineMovesOverAPersonNotToldClear() {
        Theatrehouse x = on(9, 9, "e0,0,0 c0,0,0 m0,1,0");
        Check.due(false, "of no legal row: e m", () -> {
            x.perform(0);
            return Check.answer(() -> x.perform(2)) != Check.UNSUPPORTED;
        });
        Check.due(0, "it has not moved", () -> x.place(0));
        x.perform(1);
        Check.due(3, "told clear", () -> x.perform(2));
        Check.due(1, "it has moved", () -> x.place(0));
    }

    @Says("and what was sung is paid")
    static void termsWhatWasSungIsPaid() {
        for (int fee : new int[] {0, 1, 99}) {
            for (int voice : new int[] {1, 2, 30}) {
                Theatrehouse x = new Theatrehouse();
                x.addPerson(fee, 30);
                x.addWork(1, 1);
                x.addCue(0, 'e', 0, 0, 1, 0);
                x.addCue(0, 'l', 0, 3, 1, 0);
                x.addCue(0, 's', 0, voice, 1, 0);
                Houses.open(x);
                Houses.perform(x, 0, 1, 2);
                Check.due(-fee * voice, voice + " for " + fee, () -> x.balance(0));
                Check.due(voice, "as much was sung", () -> x.sung(0));
            }
        }
    }

    @Says("A method that throws an exception changes nothing")
    static void termsAMethodThatThrowsChangesNothing() {
        for (int i = 0; i < 4; i++) {
            Twin.House house = i == 0 ? Houses.RICH : i == 1 ? Houses.RICH_ON : i == 2 ? Houses.FULL : Houses.FULL_ON;
            boolean isOn = i % 2 == 1;
            for (int part = 0; part < Probe.PARTS; part++) {
                int of = part;
                Theatrehouse x = house.make();
                refuseAll(x, isOn);
                String due = Probe.part(part, house.make());
                Check.due(due, "house " + i + ", part " + part, () -> Probe.part(of, x));
            }
        }
    }

    /** Every method that can throw does so. */
    private static void refuseAll(Theatrehouse x, boolean isOn) {
        Class<?> state = Check.STATE;
        Check.due(Check.ARGUMENT, "addPerson", () -> x.addPerson(-1, 1));
        Check.due(Check.INDEX, "setCover", () -> x.setCover(0, 0));
        Check.due(Check.ARGUMENT, "fallIll", () -> x.fallIll(0, 31));
        Check.due(Check.ARGUMENT, "addMachine", () -> x.addMachine(0, 10));
        Check.due(Check.ARGUMENT, "setInterlock", () -> x.setInterlock(0, 1, 5, 4));
        Check.due(Check.ARGUMENT, "addWork", () -> x.addWork(6, 1));
        Check.due(Check.UNSUPPORTED, "setRole", () -> x.setRole(0, 0, 1));
        Check.due(Check.ARGUMENT, "addCue", () -> x.addCue(0, 'e', 0, 5, 1, 0));
        Check.due(Check.INDEX, "cues", () -> x.cues(3));
        Check.due(Check.UNSUPPORTED, "plan", () -> x.plan(1, 0));
        Check.due(Check.UNSUPPORTED, "sell", () -> x.sell(0, 31));
        Check.due(Check.ARGUMENT, "pass", () -> x.pass(31));
        Check.due(isOn ? Check.INDEX : state, "perform", () -> x.perform(9));
        Check.due(isOn ? Check.UNSUPPORTED : state, "perform again", () -> x.perform(0));
        Check.due(isOn ? Check.INDEX : state, "obstacle", () -> x.obstacle(9));
        Check.due(isOn ? Check.INDEX : state, "singer", () -> x.singer(5));
        Check.due(isOn ? Check.INDEX : state, "zone", () -> x.zone(10));
        Check.due(Check.INDEX, "voice", () -> x.voice(10));
        Check.due(Check.INDEX, "place", () -> x.place(6));
        Check.due(isOn ? Check.ELEMENT : state, "orderAt", () -> x.orderAt(9));
        Check.due(Check.INDEX, "balance", () -> x.balance(3));
        Check.due(Check.INDEX, "sung", () -> x.sung(10));
        Check.due(Check.ARITHMETIC, "meanMinutes", () -> x.meanMinutes());
        if (isOn) {
            Check.due(state, "begin", () -> x.begin());
            Check.due(state, "addPerson while on", () -> x.addPerson(1, 1));
            Check.due(state, "setCover while on", () -> x.setCover(0, 1));
            Check.due(state, "addMachine while on", () -> x.addMachine(1, 1));
            Check.due(state, "setInterlock while on", () -> x.setInterlock(0, 1, 0, 0));
            Check.due(state, "addWork while on", () -> x.addWork(1, 1));
            Check.due(state, "setRole while on", () -> x.setRole(1, 1, 0));
            Check.due(state, "addCue while on", () -> x.addCue(0, 'c', 0, 0, 1, 0));
            Check.due(state, "pass while on", () -> x.pass(1));
        } else {
            Check.due(state, "takeBack", () -> x.takeBack());
            Check.due(state, "end", () -> x.end());
            Check.due(state, "minutes", () -> x.minutes());
            Check.due(state, "states", () -> x.states());
            Check.due(state, "hasOrder", () -> x.hasOrder());
            Check.due(state, "farthest", () -> x.farthest());
            Check.due(state, "stuck", () -> x.stuck());
            Check.due(state, "orders", () -> x.orders());
        }
    }

    @Says("If several conditions for an exception hold, the exception that is listed first is thrown")
    static void termsTheExceptionListedFirstIsThrown() {
        Twin.House on = Houses.FULL_ON;
        Twin.refused(Check.ARGUMENT, "addPerson", on, x -> x.addPerson(100, 31));
        Twin.refused(Check.INDEX, "setCover", on, x -> x.setCover(10, 10));
        Twin.refused(Check.INDEX, "fallIll", on, x -> x.fallIll(10, 31));
        Twin.refused(Check.ARGUMENT, "addMachine", on, x -> x.addMachine(5, 10));
        Twin.refused(Check.INDEX, "setInterlock", on, x -> x.setInterlock(6, 6, 8, 7));
        Twin.refused(Check.ARGUMENT, "addWork", on, x -> x.addWork(6, 100));
        Twin.refused(Check.INDEX, "setRole, role", on, x -> x.setRole(0, 5, 1));
        Twin.refused(Check.UNSUPPORTED, "setRole, another role", on, x -> x.setRole(0, 0, 1));
        Twin.refused(Check.INDEX, "addCue", on, x -> x.addCue(3, 'q', 9, 9, 61, 512));
        Twin.refused(Check.ARGUMENT, "addCue, number", on, x -> x.addCue(0, 'q', 9, 9, 61, 512));
        Twin.refused(Check.INDEX, "plan", on, x -> x.plan(3, 100));
        Twin.refused(Check.ARGUMENT, "sell", on, x -> x.sell(100, 0));
        Twin.refused(Check.ELEMENT, "sell, given back", on, x -> x.sell(0, -1));
        Twin.refused(Check.ARGUMENT, "pass", on, x -> x.pass(31));
        for (Twin.House off : new Twin.House[] {Houses.NEW, Houses.RICH}) {
            Twin.refused(Check.STATE, "perform", off, x -> x.perform(9));
            Twin.refused(Check.STATE, "obstacle", off, x -> x.obstacle(-1));
            Twin.refused(Check.STATE, "singer", off, x -> x.singer(5));
            Twin.refused(Check.STATE, "zone", off, x -> x.zone(10));
            Twin.refused(Check.STATE, "orderAt", off, x -> x.orderAt(9));
        }
    }

    // ---- People.

    @Says({"There are at most 10 people, numbered from 0", "each with a fee"})
    static void termsAtMost10People() {
        Theatrehouse x = new Theatrehouse();
        for (int i = 0; i < 10; i++) {
            int person = i;
            Check.due(person, "person " + i, () -> x.addPerson(10 * person, 30));
        }
        Check.due(Check.STATE, "an eleventh", () -> x.addPerson(0, 1));
        Check.due(Check.INDEX, "has no number", () -> x.voice(10));
        x.addWork(1, 1);
        x.addCue(0, 'e', 0, 0, 1, 0);
        x.addCue(0, 'l', 0, 1, 1, 0);
        x.addCue(0, 's', 0, 2, 1, 0);
        for (int person = 0; person < 10; person++) {
            int all = -20 * (person * (person + 1) / 2);
            x.setRole(0, 0, person);
            Houses.open(x);
            Houses.perform(x, 0, 1, 2);
            Check.due(all, "the fee of the person " + person, () -> x.balance(0));
            x.end();
            x.pass(1);
        }
    }

    @Says("a greatest voice and a voice, the greatest one at first")
    static void termsTheVoiceIsTheGreatestOneAtFirst() {
        Theatrehouse x = new Theatrehouse();
        for (int i = 0; i < 10; i++) {
            int greatest = i < 9 ? 1 + 3 * i : 30;
            int person = i;
            x.addPerson(1, greatest);
            Check.due(greatest, "at first", () -> x.voice(person));
        }
    }

    @Says("and perhaps a cover, another one")
    static void termsPerhapsACover() {
        Theatrehouse x = Houses.withPeople(10);
        for (int i = 0; i < 10; i++) {
            int person = i;
            Check.due(-1, "none at first", () -> x.setCover(person, -1));
            Check.due(Check.INDEX, "not oneself", () -> x.setCover(person, person));
            Check.due(-1, "another one", () -> x.setCover(person, 9 - person));
            Check.due(9 - person, "it is the cover", () -> x.setCover(person, (person + 1) % 10));
        }
    }

    @Says("One can be ill up to a day, that day included")
    static void termsIllUpToADayThatDayIncluded() {
        for (int days = 0; days <= 4; days++) {
            Theatrehouse x = Houses.withRoles(1);
            x.fallIll(0, days);
            for (int day = 0; day < 6; day++) {
                Houses.open(x);
                Object due = day < days ? Check.ELEMENT : (Object) 0;
                Check.due(due, days + " days ill, the day " + day, () -> x.singer(0));
                x.end();
                x.pass(1);
            }
        }
    }

    @Says("When a day goes by, each voice becomes 3 greater, at most the greatest one")
    static void termsEachVoiceBecomes3GreaterADay() {
        for (int sung = 1; sung <= 30; sung++) {
            for (int step = 1; step <= 4; step++) {
                Theatrehouse x = EveningTest.singing(30, sung);
                Houses.perform(x, 0, 1, 2);
                x.end();
                int left = 30 - sung;
                for (int days = step; days <= 12; days += step) {
                    int voice = Math.min(30, left + 3 * days);
                    x.pass(step);
                    Check.due(voice, left + " and " + days + " days by " + step, () -> x.voice(0));
                }
            }
        }
        for (int greatest = 1; greatest <= 30; greatest++) {
            int most = greatest;
            Theatrehouse x = EveningTest.singing(greatest, greatest);
            x.end();
            x.pass(1);
            Check.due(most, "no greater than " + greatest, () -> x.voice(0));
            Houses.open(x);
            Houses.perform(x, 0, 1, 2);
            x.end();
            x.pass(30);
            Check.due(most, "up to " + greatest, () -> x.voice(0));
        }
        Theatrehouse all = Houses.withRoles(5);
        for (int role = 0; role < 5; role++) {
            all.addCue(0, 'e', role, role, 1, 0);
        }
        Houses.open(all);
        all.end();
        all.pass(1);
        for (int i = 0; i < 5; i++) {
            int person = i;
            Check.due(20 + person, "who has not sung", () -> all.voice(person));
        }
    }

    // ---- Machines.

    @Says({"There are at most 6 machines, numbered from 0", "with a limit"})
    static void termsAtMost6Machines() {
        Theatrehouse x = new Theatrehouse();
        for (int i = 0; i < 6; i++) {
            int machine = i;
            Check.due(machine, "machine " + i, () -> x.addMachine(machine % 5, machine));
        }
        Check.due(Check.STATE, "a seventh", () -> x.addMachine(0, 0));
        Check.due(Check.INDEX, "has no number", () -> x.place(6));
    }

    @Says("each over one of the zones 0 to 4 of the stage")
    static void termsEachOverOneZone() {
        for (int zone = 0; zone < 5; zone++) {
            Theatrehouse x = Houses.withRoles(1);
            for (int i = 0; i < 5; i++) {
                x.addMachine(i, 0);
            }
            x.addCue(0, 'e', 0, zone, 1, 0);
            for (int i = 0; i < 5; i++) {
                x.addCue(0, 'm', i, 1, 1, 0);
            }
            Houses.open(x);
            x.perform(0);
            for (int i = 0; i < 5; i++) {
                int cue = 1 + i;
                Check.due(i == zone ? 'u' : '-', "over " + i + ", somebody being in " + zone, () -> x.obstacle(cue));
            }
        }
        Check.due(Check.ARGUMENT, "no zone -1", () -> new Theatrehouse().addMachine(-1, 0));
        Check.due(Check.ARGUMENT, "no zone 5", () -> new Theatrehouse().addMachine(5, 0));
    }

    @Says("and at a place from 0 to 7")
    static void termsAtAPlaceFrom0To7() {
        Theatrehouse x = OrdersSentencesTest.staged(0, 0, "m1,7,0 m1,0,0 m1,1,0 m1,6,0");
        Check.due(Check.ARGUMENT, "no place -1", () -> x.addCue(0, 'm', 1, -1, 1, 0));
        Check.due(Check.ARGUMENT, "no place 8", () -> x.addCue(0, 'm', 1, 8, 1, 0));
        x.begin();
        int[] places = {7, 0, 1, 6};
        for (int i = 0; i < 4; i++) {
            int at = places[i];
            x.perform(i);
            Check.due(at, "at " + at, () -> x.place(1));
        }
    }

    @Says({"A machine can have one interlock:",
        "it only moves while another one is at a place from a lowest to a greatest one"})
    static void termsOneInterlock() {
        for (int low = 0; low < 8; low++) {
            for (int high = low; high < 8; high++) {
                Theatrehouse x = OrdersSentencesTest.staged(0, 0,
                    "m0,1,0 m1,1,0 m1,2,0 m1,3,0 m1,4,0 m1,5,0 m1,6,0 m1,7,0");
                x.setInterlock(0, 1, low, high);
                x.begin();
                for (int place = 0; place < 8; place++) {
                    if (place > 0) {
                        x.perform(place);
                    }
                    boolean holds = place >= low && place <= high;
                    Check.due(holds ? '-' : 'i', "at " + place + " of " + low + " to " + high, () -> x.obstacle(0));
                }
            }
        }
        Theatrehouse both = OrdersSentencesTest.staged(0, 0, "m0,1,0 m1,1,0 m0,2,2");
        both.setInterlock(0, 1, 1, 1);
        both.setInterlock(1, 0, 0, 0);
        both.begin();
        expect(both, "each is the other's", "i-n");
        both.perform(1);
        both.perform(0);
        expect(both, "the one has moved", "dd-");
        both.takeBack();
        both.takeBack();
        Check.due(0, "and back", () -> both.place(1));
    }

    // ---- Works.

    @Says({"There are at most 3 works, numbered from 0", "each with 1 to 5 roles, numbered from 0"})
    static void termsAtMost3Works() {
        Theatrehouse x = Houses.withPeople(1);
        Check.due(Check.ARGUMENT, "no roles", () -> x.addWork(0, 1));
        Check.due(Check.ARGUMENT, "six roles", () -> x.addWork(6, 1));
        Check.due(0, "one role", () -> x.addWork(1, 1));
        Check.due(1, "five roles", () -> x.addWork(5, 1));
        Check.due(2, "three roles", () -> x.addWork(3, 1));
        Check.due(Check.STATE, "a fourth work", () -> x.addWork(1, 1));
        int[] roles = {1, 5, 3};
        for (int work = 0; work < 3; work++) {
            x.plan(work, work);
        }
        for (int work = 0; work < 3; work++) {
            x.begin();
            for (int i = -1; i <= 5; i++) {
                int role = i;
                Object due = role < 0 || role >= roles[work] ? Check.INDEX : (Object) 0;
                Check.due(due, "role " + role + " of " + roles[work], () -> x.singer(role));
            }
            x.end();
            x.pass(1);
        }
    }

    @Says("and at most 9 cues, numbered from 0")
    static void termsAtMost9Cues() {
        for (int i = 0; i < 3; i++) {
            int work = i;
            Theatrehouse x = Houses.withPeople(1);
            for (int j = 0; j < 3; j++) {
                x.addWork(1, 1);
            }
            for (int j = 0; j < 9; j++) {
                int cue = j;
                Check.due(cue, "cue " + j + " of " + i, () -> x.addCue(work, 'c', 0, 0, 1, 0));
            }
            Check.due(Check.STATE, "a tenth of " + i, () -> x.addCue(work, 'c', 0, 0, 1, 0));
            Check.due(0, "the next work has its own", () -> x.addCue((work + 1) % 3, 'c', 0, 0, 1, 0));
        }
    }

    @Says("A role has a person, the person 0 at first")
    static void termsTheRolesPersonIs0AtFirst() {
        for (int roles = 1; roles <= 5; roles++) {
            Theatrehouse x = Houses.withPeople(10);
            x.addWork(roles, 1);
            Houses.open(x);
            for (int i = 0; i < roles; i++) {
                int role = i;
                Check.due(0, "the singer of the role " + i, () -> x.singer(role));
            }
            x.end();
            for (int i = 0; i < roles; i++) {
                int role = i;
                Check.due(0, "the person of the role " + i, () -> x.setRole(0, role, 9 - role));
            }
        }
        Theatrehouse empty = new Theatrehouse();
        empty.addWork(1, 1);
        Houses.open(empty);
        Check.due(Check.ELEMENT, "there is no person 0", () -> empty.singer(0));
        empty.end();
        empty.addPerson(1, 1);
        empty.pass(1);
        Houses.open(empty);
        Check.due(0, "now there is", () -> empty.singer(0));
    }

    @Says("A cue has a kind, two numbers a and b, minutes, and cues with lower numbers that must be done ahead of it:")
    static void termsACueHas() {
        Theatrehouse x = Houses.withRoles(2);
        x.addCue(0, 'c', 0, 0, 1, 0);
        x.addCue(0, 'e', 1, 3, 17, 1);
        Houses.open(x);
        Check.due('n', "a cue with a lower number ahead", () -> x.obstacle(1));
        x.perform(0);
        Check.due(18, "its minutes", () -> x.perform(1));
        Check.due(3, "its kind, its role and its zone", () -> x.zone(1));
    }

    @Says("'e' the role a enters the zone b; its singer must be off the stage.")
    static void termsKindE() {
        for (int zone = 0; zone < 5; zone++) {
            for (int i = 0; i < 5; i++) {
                int role = i;
                int to = zone;
                Theatrehouse x = Houses.withRoles(5);
                x.addCue(0, 'e', role, zone, 1, 0);
                x.addCue(0, 'e', role, zone, 1, 0);
                x.addCue(0, 'e', role, (zone + 1) % 5, 1, 0);
                Houses.open(x);
                expect(x, "off the stage", "---");
                x.perform(0);
                for (int j = 0; j < 5; j++) {
                    int person = j;
                    Check.due(person == role ? to : -1, role + " enters " + to + ", " + j, () -> x.zone(person));
                }
                expect(x, "on the stage", "dpp");
            }
        }
    }

    @Says({"'g' the role a goes to the zone b",
        "its singer must be on the stage, and for 'g' in another zone."})
    static void termsKindG() {
        for (int from = 0; from < 5; from++) {
            for (int to = 0; to < 5; to++) {
                int then = to;
                Theatrehouse x = Houses.withRoles(2);
                x.addCue(0, 'g', 1, to, 1, 0);
                x.addCue(0, 'e', 1, from, 1, 0);
                Houses.open(x);
                Check.due('p', "off the stage", () -> x.obstacle(0));
                x.perform(1);
                if (from == to) {
                    Check.due('p', "in this zone", () -> x.obstacle(0));
                    continue;
                }
                Check.due(2, "in another zone", () -> x.perform(0));
                Check.due(then, "goes there", () -> x.zone(1));
            }
        }
    }

    @Says("and 'x' the role a leaves the stage, b being 0")
    static void termsKindX() {
        for (int zone = 0; zone < 5; zone++) {
            Theatrehouse x = Houses.withRoles(2);
            Check.due(Check.ARGUMENT, "b is 1", () -> x.addCue(0, 'x', 1, 1, 1, 0));
            Check.due(Check.ARGUMENT, "b is -1", () -> x.addCue(0, 'x', 1, -1, 1, 0));
            x.addCue(0, 'x', 1, 0, 1, 0);
            x.addCue(0, 'e', 1, zone, 1, 0);
            Houses.open(x);
            Check.due('p', "off the stage", () -> x.obstacle(0));
            x.perform(1);
            Check.due(2, "leaves", () -> x.perform(0));
            Check.due(-1, "is off the stage", () -> x.zone(1));
        }
    }

    @Says("'c' all who are in the zone a are told clear, b being 0.")
    static void termsKindC() {
        for (int told = 0; told < 5; told++) {
            Theatrehouse x = Houses.withRoles(4);
            for (int zone = 0; zone < 5; zone++) {
                x.addMachine(zone, 9);
            }
            int of = told;
            Check.due(Check.ARGUMENT, "b is 1", () -> x.addCue(0, 'c', of, 1, 1, 0));
            Check.due(Check.ARGUMENT, "b is -1", () -> x.addCue(0, 'c', of, -1, 1, 0));
            x.addCue(0, 'c', told, 0, 1, 0);
            int other = (told + 1) % 5;
            x.addCue(0, 'e', 0, told, 1, 0);
            x.addCue(0, 'e', 1, told, 1, 0);
            x.addCue(0, 'e', 2, other, 1, 0);
            x.addCue(0, 'm', told, 1, 1, 0);
            x.addCue(0, 'm', other, 1, 1, 0);
            Houses.open(x);
            Check.due(1, "in an empty zone, too", () -> x.perform(0));
            x.takeBack();
            Houses.perform(x, 1, 2, 3);
            expect(x, "not told", "-ddduu");
            x.perform(0);
            expect(x, "all in the zone " + told, "dddd-u");
        }
        for (int role = 0; role < 5; role++) {
            for (int zone = 0; zone < 5; zone++) {
                toldInTheLight(role, zone);
            }
        }
    }

    /** Who was told clear stays so, whatever light changes, and no light changes because somebody is told. */
    private static void toldInTheLight(int role, int zone) {
        Theatrehouse x = Houses.withRoles(5);
        x.addMachine(3, 9);
        x.addCue(0, 'm', 0, 1, 1, 0);
        x.addCue(0, 'e', role, 3, 1, 0);
        x.addCue(0, 'c', 3, 0, 1, 0);
        for (int light = 0; light < 4; light++) {
            x.addCue(0, 'l', zone, light, 1, 0);
        }
        Houses.open(x);
        x.perform(1);
        expect(x, role + " is not told, the light of " + zone + " is 0", "ud-s---");
        x.perform(2);
        expect(x, role + " is told, the light of " + zone + " is 0", "-dds---");
        x.perform(4);
        expect(x, role + " is told, the light of " + zone + " is 1", "-dd-d--");
        x.perform(3);
        expect(x, role + " is told, the light of " + zone + " is 0 again", "-dddd--");
        x.perform(6);
        expect(x, role + " is told, the light of " + zone + " is 3", "-dddd-d");
    }

    @Says({"'m' the machine a moves to the place b, another one than where it is:",
        "all who are in its zone must have been told clear, they must not be more than its limit",
        "and its interlock must hold;"})
    static void termsKindM() {
        Theatrehouse x = Houses.withRoles(3);
        x.addMachine(2, 1);
        x.addMachine(3, 0);
        x.setInterlock(0, 1, 0, 0);
        x.addCue(0, 'm', 0, 5, 1, 0);
        x.addCue(0, 'm', 0, 0, 1, 0);
        x.addCue(0, 'e', 0, 2, 1, 0);
        x.addCue(0, 'e', 1, 2, 1, 0);
        x.addCue(0, 'e', 2, 3, 1, 0);
        x.addCue(0, 'c', 2, 0, 1, 0);
        x.addCue(0, 'm', 1, 1, 1, 0);
        x.addCue(0, 'c', 3, 0, 1, 0);
        Houses.open(x);
        expect(x, "an empty stage", "-s------");
        Check.due(1, "moves", () -> x.perform(0));
        Check.due(5, "is there", () -> x.place(0));
        Check.due(0, "the other one is not", () -> x.place(1));
        Check.due('-', "back to another place", () -> x.obstacle(1));
        x.takeBack();
        x.perform(2);
        Check.due('u', "one who was not told", () -> x.obstacle(0));
        x.perform(5);
        Check.due('-', "one who was told, as many as the limit", () -> x.obstacle(0));
        x.takeBack();
        Houses.perform(x, 3, 5);
        Check.due('o', "one more than the limit", () -> x.obstacle(0));
        Check.due('-', "nobody in the other zone", () -> x.obstacle(6));
        x.perform(4);
        Check.due('u', "somebody in the other zone", () -> x.obstacle(6));
        x.perform(7);
        Check.due('o', "told, but the limit is 0", () -> x.obstacle(6));
        x.takeBack();
        x.takeBack();
        x.takeBack();
        x.takeBack();
        Houses.perform(x, 5, 6);
        Check.due('i', "the interlock", () -> x.obstacle(0));
    }

    @Says("they are not told clear any more then.")
    static void termsNotToldClearWhenTheMachineHasMoved() {
        Theatrehouse x = Houses.withRoles(3);
        x.addMachine(2, 9);
        x.addMachine(2, 9);
        x.addMachine(3, 9);
        x.addCue(0, 'e', 0, 2, 1, 0);
        x.addCue(0, 'e', 1, 2, 1, 0);
        x.addCue(0, 'e', 2, 3, 1, 0);
        x.addCue(0, 'c', 2, 0, 1, 0);
        x.addCue(0, 'c', 3, 0, 1, 0);
        x.addCue(0, 'm', 0, 1, 1, 0);
        x.addCue(0, 'm', 1, 1, 1, 0);
        x.addCue(0, 'm', 2, 1, 1, 0);
        x.addCue(0, 'x', 0, 0, 1, 0);
        Houses.open(x);
        Houses.perform(x, 0, 1, 2, 3, 4);
        expect(x, "all were told", "ddddd---");
        x.perform(5);
        expect(x, "those in its zone no more, for any machine there", "ddddddu-");
        x.perform(8);
        Check.due('u', "each of them", () -> x.obstacle(6));
    }

    @Says({"'s' the role a sings, for which the voice b, 1 to 30, is needed: its singer must be on the stage",
        "in a zone with light, with at least so much voice, which is taken from it."})
    static void termsKindS() {
        Check.due(Check.ARGUMENT, "the voice 0", () -> Houses.withRoles(1).addCue(0, 's', 0, 0, 1, 0));
        Check.due(Check.ARGUMENT, "the voice 31", () -> Houses.withRoles(1).addCue(0, 's', 0, 31, 1, 0));
        for (int voice = 1; voice <= 30; voice++) {
            int needed = voice;
            Theatrehouse x = EveningTest.singing(30, needed);
            Check.due('p', "off the stage", () -> x.obstacle(2));
            x.perform(0);
            Check.due('k', "no light", () -> x.obstacle(2));
            x.perform(1);
            Check.due(30, "sings", () -> x.perform(2));
            Check.due(30 - needed, "which is taken", () -> x.voice(0));
            if (voice < 30) {
                Theatrehouse weak = EveningTest.singing(needed, needed + 1);
                Houses.perform(weak, 0, 1);
                Check.due('v', "one less than is needed", () -> weak.obstacle(2));
            }
        }
        Theatrehouse first = on(9, 9, "s0,11,0 e0,0,0 l0,1,0 s0,10,0 s0,9,0", 1, 2, 0);
        expect(first, "11 of 20 for the cue 0", "dddv-");
        Theatrehouse x = on(9, 9, "e1,4,0 l4,1,0 s1,12,0 s1,8,0 s1,1,0 e0,4,0 s0,20,0", 0, 1, 5);
        x.perform(2);
        Check.due(8, "left of 20", () -> x.voice(1));
        Check.due(20, "the other one's is left alone", () -> x.voice(0));
        x.perform(3);
        Check.due('v', "none is left", () -> x.obstacle(4));
        Check.due('-', "the other one has some", () -> x.obstacle(6));
    }

    @Says("'l' the light of the zone a becomes b, 0 to 3, another one than it is.")
    static void termsKindL() {
        Check.due(Check.ARGUMENT, "the light -1", () -> Houses.withRoles(1).addCue(0, 'l', 0, -1, 1, 0));
        Check.due(Check.ARGUMENT, "the light 4", () -> Houses.withRoles(1).addCue(0, 'l', 0, 4, 1, 0));
        for (int zone = 0; zone < 5; zone++) {
            String cues = "l%,0,0 l%,1,0 l%,2,0 l%,3,0 l%,0,0 l%,1,0 l%,2,0 l%,3,0".replace("%", "" + zone);
            Theatrehouse x = on(9, 9, cues);
            expect(x, "0 at first", "s---s---");
            x.perform(1);
            expect(x, "1 then", "-d---s--");
            x.perform(3);
            expect(x, "3 then", "-d-d---s");
            x.perform(0);
            expect(x, "0 then", "dd-ds---");
            x.perform(2);
            expect(x, "2 then", "dddd--s-");
        }
        for (int first = 0; first < 5; first++) {
            for (int second = 0; second < 5; second++) {
                if (first != second) {
                    lightsOfTwoZones(first, second);
                }
            }
        }
    }

    /** Each zone has a light of its own, whichever it is and whichever comes first. */
    private static void lightsOfTwoZones(int first, int second) {
        for (int light = 1; light < 4; light++) {
            for (int other = 1; other < 4; other++) {
                String what = "light " + light + " in the zone " + first + ", then " + other + " in " + second;
                String one = "l" + first + ",";
                String two = "l" + second + ",";
                Theatrehouse x = on(9, 9, one + light + ",0 " + two + other + ",0 " + one + light + ",0 " + two + other
                    + ",0 " + one + "0,0 " + two + "0,0");
                expect(x, what + ", neither", "----ss");
                x.perform(0);
                expect(x, what + ", one", "d-s--s");
                x.perform(1);
                expect(x, what + ", both", "ddss--");
                x.perform(4);
                expect(x, what + ", the first one out", "dd-sd-");
                x.takeBack();
                x.perform(5);
                expect(x, what + ", the second one out", "dds--d");
            }
        }
    }

    @Says("Who enters, goes or leaves is not told clear any more.")
    static void termsWhoEntersGoesOrLeavesIsNotToldClear() {
        Theatrehouse goes = on(9, 9, "e0,0,0 c0,0,0 g0,1,0 m1,1,0 m0,1,0", 0, 1);
        expect(goes, "told in the zone 0", "dd---");
        goes.perform(2);
        expect(goes, "goes to the zone 1", "dddu-");
        Theatrehouse back = on(9, 9, "e0,0,0 c0,0,0 g0,1,0 g0,0,0 m0,1,0", 0, 1, 2, 3);
        Check.due('u', "goes there and back", () -> back.obstacle(4));
        Theatrehouse leaves = on(9, 9, "e0,0,0 c0,0,0 x0,0,0 e0,0,0 m0,1,0", 0, 1, 2);
        Check.due('-', "leaves", () -> leaves.obstacle(4));
        leaves.perform(3);
        Check.due('u', "enters again", () -> leaves.obstacle(4));
        Theatrehouse enters = on(9, 9, "c0,0,0 e0,0,0 m0,1,0 e1,0,0 c0,0,0", 0, 1);
        Check.due('u', "enters what was told", () -> enters.obstacle(2));
        enters.perform(4);
        Check.due('-', "told", () -> enters.obstacle(2));
        enters.perform(3);
        Check.due('u', "a second one enters", () -> enters.obstacle(2));
        Check.due(3, "told clear and left is as never told",
            () -> on(9, 9, "e0,0,0 c0,0,1 x0,0,1", 0).states() - 1);
    }

    @Says("A cue is done at most once in an evening.")
    static void termsACueIsDoneAtMostOnce() {
        Theatrehouse x = on(9, 9, "c0,0,0 c0,0,0");
        x.perform(1);
        Check.due(Check.UNSUPPORTED, "twice", () -> x.perform(1));
        x.takeBack();
        Check.due(1, "taken back", () -> x.perform(1));
        x.end();
        x.pass(1);
        Houses.open(x);
        Check.due(1, "in another evening", () -> x.perform(1));
    }

    @Says("It can be done if no cue is missing that must be done ahead, and what is told above holds.")
    static void termsACueCanBeDoneIf() {
        Theatrehouse x = on(9, 9, "c0,0,0 c0,0,0 e0,0,3 x0,0,1");
        expect(x, "nothing was done", "--nn");
        x.perform(1);
        expect(x, "one of two", "-dnn");
        x.perform(0);
        expect(x, "none missing; who leaves must be on the stage", "dd-p");
        x.perform(2);
        expect(x, "all holds", "ddd-");
        for (int i = 0; i < 4; i++) {
            int cue = i;
            Object due = i == 3 ? (Object) 4 : Check.UNSUPPORTED;
            Check.due(due, "perform " + i, () -> x.perform(cue));
        }
    }

    // ---- Evenings.

    @Says("An evening of a work is on one day, at most one on a day;")
    static void termsAtMostOneEveningOnADay() {
        Theatrehouse x = Houses.withPeople(1);
        for (int work = 0; work < 3; work++) {
            x.addWork(1, 1);
        }
        for (int day = 0; day < 100; day++) {
            int of = day;
            Check.due(day + 1, "one on the day " + day, () -> x.plan(of % 3, of));
            for (int i = 0; i < 3; i++) {
                int work = i;
                Check.due(Check.UNSUPPORTED, "a second one on the day " + day, () -> x.plan(work, of));
            }
        }
        Check.due(0, "the first one begins", () -> x.begin());
        x.end();
        Check.due(Check.ELEMENT, "and no other on the same day", () -> x.begin());
    }

    @Says("when it begins, all machines are at the place 0, all lights 0, nobody is on the stage.")
    static void termsWhenAnEveningBegins() {
        Theatrehouse x = Houses.withRoles(5);
        for (int i = 0; i < 6; i++) {
            x.addMachine(4, 0);
        }
        x.addWork(5, 1);
        for (int i = 0; i < 5; i++) {
            x.addCue(0, 'l', i, 0, 1, 0);
        }
        for (int i = 0; i < 4; i++) {
            x.addCue(1, 'l', i, 1 + i % 3, 1, 0);
        }
        x.addCue(1, 'm', 5, 7, 1, 0);
        x.addCue(1, 'm', 0, 7, 1, 0);
        x.addCue(1, 'e', 0, 4, 1, 0);
        x.addCue(1, 'e', 4, 2, 1, 0);
        x.addCue(1, 'l', 4, 3, 1, 0);
        for (int role = 0; role < 5; role++) {
            x.setRole(1, role, role);
        }
        for (int day = 0; day < 4; day++) {
            x.plan((day + 1) % 2, day);
            x.begin();
            for (int i = 0; i < 6; i++) {
                int machine = i;
                Check.due(0, "the place of machine " + i, () -> x.place(machine));
            }
            for (int i = 0; i < 5; i++) {
                int person = i;
                Check.due(-1, "the zone of the person " + i, () -> x.zone(person));
            }
            Check.due(0, "the minutes", () -> x.minutes());
            expect(x, "the day " + day, day % 2 == 1 ? "sssss" : "---------");
            for (int cue = 0; cue < 9 && day % 2 == 0; cue++) {
                x.perform(cue);
            }
            x.end();
            x.pass(1);
        }
    }

    /** The roles 0 and 1, and the cover of the person 0; each one is ill or not. */
    private static Theatrehouse illOrNot(boolean person, boolean cover, boolean hasCover, int coversCover) {
        Theatrehouse x = Houses.withRoles(2);
        x.addPerson(1, 1);
        x.addPerson(1, 1);
        x.setCover(0, hasCover ? 2 : -1);
        x.setCover(2, coversCover);
        x.addCue(0, 'e', 0, 0, 1, 0);
        x.addCue(0, 'g', 0, 0, 1, 0);
        x.addCue(0, 'x', 0, 0, 1, 0);
        x.addCue(0, 's', 0, 1, 1, 0);
        x.addCue(0, 'e', 1, 0, 1, 0);
        x.fallIll(0, person ? 1 : 0);
        x.fallIll(2, cover ? 1 : 0);
        Houses.open(x);
        return x;
    }

    @Says({"The singer of a role is its person", "or, if this one is ill on that day, this one's cover",
        "if there is one who is not ill;"})
    static void termsTheSingerOfARole() {
        for (int i = 0; i < 16; i++) {
            boolean person = (i & 1) != 0;
            boolean cover = (i & 2) != 0;
            boolean has = (i & 4) != 0;
            Theatrehouse x = illOrNot(person, cover, has, (i & 8) != 0 ? 3 : -1);
            Object due = !person ? (Object) 0 : has && !cover ? (Object) 2 : Check.ELEMENT;
            Check.due(due, "ill " + person + ", cover " + has + ", ill " + cover, () -> x.singer(0));
            Check.due(1, "the other role", () -> x.singer(1));
        }
    }

    @Says("otherwise, the role has no singer, and no cue of it can be done.")
    static void termsNoSingerNoCue() {
        Theatrehouse x = illOrNot(true, true, true, 3);
        expect(x, "no singer", "rrrr-");
        for (int i = 0; i < 5; i++) {
            int cue = i;
            Check.due(i == 4 ? (Object) 1 : Check.UNSUPPORTED, "perform " + i, () -> x.perform(cue));
        }
    }

    @Says("Singers stay for the evening.")
    static void termsSingersStayForTheEvening() {
        Theatrehouse x = illOrNot(true, false, true, 3);
        x.fallIll(0, 0);
        Check.due(2, "the person is well again", () -> x.singer(0));
        x.fallIll(2, 30);
        Check.due(2, "the cover falls ill", () -> x.singer(0));
        Check.due(1, "and enters", () -> x.perform(0));
        Check.due(0, "is on the stage", () -> x.zone(2));
        x.end();
        x.pass(1);
        Houses.open(x);
        Check.due(0, "the next evening's", () -> x.singer(0));
    }

    @Says("An evening ends by its end being called, whatever was done;")
    static void termsAnEveningEndsByItsEnd() {
        Theatrehouse all = on(9, 9, "c0,0,0 c0,0,0", 0, 1);
        Check.due(2, "all was done, and it is still on", () -> all.minutes());
        Check.due(0, "ends", () -> all.end());
        Check.due(2, "nothing was done", () -> on(9, 9, "c0,0,0 c0,0,0").end());
        Check.due(1, "all was taken back", () -> {
            Theatrehouse x = on(9, 9, "c0,0,0", 0);
            x.takeBack();
            return x.end();
        });
        Check.due(0, "there are no cues", () -> on(9, 9, "").end());
    }

    @Says("until then, no day goes by, and no person, machine or work is added or changed.")
    static void termsUntilThenNothingIsAddedOrChanged() {
        Twin.refused(Check.STATE, "no day", Houses.RICH_ON, x -> x.pass(1));
        Twin.refused(Check.STATE, "no person added", Houses.RICH_ON, x -> x.addPerson(1, 1));
        Twin.refused(Check.STATE, "no person changed", Houses.RICH_ON, x -> x.setCover(3, 0));
        Twin.refused(Check.STATE, "no machine added", Houses.RICH_ON, x -> x.addMachine(1, 1));
        Twin.refused(Check.STATE, "no machine changed", Houses.RICH_ON, x -> x.setInterlock(2, 0, 0, 7));
        Twin.refused(Check.STATE, "no work added", Houses.RICH_ON, x -> x.addWork(1, 1));
        Twin.refused(Check.STATE, "no work's role changed", Houses.RICH_ON, x -> x.setRole(1, 1, 3));
        Twin.refused(Check.STATE, "no work's cue added", Houses.RICH_ON, x -> x.addCue(1, 'c', 0, 0, 1, 0));
        Theatrehouse x = Houses.richOn();
        x.end();
        Check.due(-1, "then", () -> x.setCover(3, 0));
    }

    // ---- Orders.

    @Says("From where the evening is, a row of cues is legal if each one, in this order, can be done when it comes.")
    static void termsALegalRow() {
        Theatrehouse x = on(0, 9, "e0,0,0 m0,1,0");
        Check.due(true, "m e is legal", () -> x.hasOrder());
        Check.due(1L, "e m is not", () -> x.orders());
        x.perform(0);
        Check.due(false, "from behind e", () -> x.hasOrder());
        x.takeBack();
        x.perform(1);
        Check.due(true, "from behind m", () -> x.hasOrder());
        Check.due(1, "one cue", () -> x.farthest());
        Check.due(0, "it is e", () -> x.orderAt(0));
    }

    @Says({"A state is which cues were done, where machines and people are, who was told clear",
        "the voices and the lights."})
    static void termsAState() {
        Check.due(4, "cues: four sets of two", () -> on(9, 9, "c0,0,0 c0,0,0").states());
        Check.due(5, "machines: at the place of the last of two", () -> on(9, 9, "m0,1,0 m0,2,0").states());
        Check.due(4, "machines: the same place", () -> on(9, 9, "m0,1,0 m1,2,0").states());
        Check.due(6, "people: in the zone of the last of two", () -> on(9, 9, "e0,0,0 g0,1,1 g0,2,1").states());
        Check.due(5, "told clear or not", () -> on(9, 9, "e0,0,0 c0,0,0").states());
        Check.due(4, "nobody to be told", () -> on(9, 9, "e0,0,0 c1,0,0").states());
        Check.due(5, "lights: the last of two", () -> on(9, 9, "l0,1,0 l0,2,0").states());
        Check.due(4, "lights: of two zones", () -> on(9, 9, "l0,1,0 l1,2,0").states());
        Check.due(4, "voices: what is left does not tell the order", () -> on(9, 9, "e0,0,0 l0,1,0 s0,3,0 s0,4,0",
            0, 1).states());
        Check.due(3, "voices: enough for one of two", () -> on(9, 9, "e0,0,0 l0,1,0 s0,13,0 s0,14,0", 0, 1).states());
    }

    @Says({"If more than 300 different states can come up by legal rows, the present one included",
        "nothing is told of orders."})
    static void termsMoreThan300States() {
        String free = "c0,0,0 c0,0,0 c0,0,0 c0,0,0 c0,0,0 c0,0,0 c0,0,0 c0,0,0 c0,0,0";
        for (int i = 0; i < 3; i++) {
            Theatrehouse x = i == 0 ? on(9, 9, free) : i == 1 ? on(1, 0, OrdersSentencesTest.STATES_300)
                : on(0, 1, OrdersSentencesTest.STATES_301);
            boolean isTold = i == 1;
            Object none = Check.UNSUPPORTED;
            Check.due(isTold ? (Object) 300 : none, "states " + i, () -> x.states());
            Check.due(isTold ? (Object) false : none, "hasOrder " + i, () -> x.hasOrder());
            Check.due(isTold ? (Object) 0L : none, "orders " + i, () -> x.orders());
            Check.due(isTold ? Check.ELEMENT : none, "orderAt " + i, () -> x.orderAt(0));
            Check.due(isTold ? (Object) 8 : none, "farthest " + i, () -> x.farthest());
            Check.due(isTold ? (Object) 8 : none, "stuck " + i, () -> x.stuck());
            Check.due(true, "consistent " + i, () -> x.isConsistent());
        }
    }

    @Says("An order is a legal row with all cues that are left;")
    static void termsAnOrder() {
        Theatrehouse x = on(9, 9, "c0,0,0 c0,0,0 x0,0,0 c0,0,0");
        Check.due(false, "one cannot be done", () -> x.hasOrder());
        Theatrehouse y = on(9, 9, "c0,0,0 c0,0,0 c0,0,0", 1);
        Check.due(2L, "two are left", () -> y.orders());
        Check.due(0, "the first one", () -> y.orderAt(0));
        Check.due(2, "the second one", () -> y.orderAt(1));
        Check.due(Check.ELEMENT, "and no more", () -> y.orderAt(2));
    }

    @Says("orders and rows are compared by their first cues that differ, the lower number first.")
    static void termsOrdersAreCompared() {
        Theatrehouse x = on(9, 9, "c0,0,0 e0,0,0 m0,1,0 c0,0,0");
        int[] row = {0, 1, 3, 2};
        for (int i = 0; i < 4; i++) {
            int index = i;
            Check.due(row[index], "the first order, index " + i, () -> x.orderAt(index));
        }
        Theatrehouse y = on(9, 9, "e0,0,0 e0,1,0 c0,0,0 e0,2,0");
        Check.due(1, "of 0 2, 1 2, 3 2 and others the first leaves 1", () -> y.stuck());
        y.perform(2);
        Check.due(1, "of 0, 1, 3", () -> y.stuck());
    }

    // ---- Books.

    @Says("A work has a balance, 0 at first: for each ticket sold, its price;")
    static void termsABalance() {
        for (int price : new int[] {1, 50, 99}) {
            Theatrehouse x = Houses.withPeople(1);
            x.addWork(1, price);
            Check.due(0, "at first", () -> x.balance(0));
            x.plan(0, 0);
            Check.due(0, "planned", () -> x.balance(0));
            for (int i = 1; i <= 30; i++) {
                int tickets = i;
                x.sell(0, 1);
                Check.due(tickets * price, tickets + " for " + price, () -> x.balance(0));
            }
        }
    }

    @Says({"less, for each cue by which a role sings, when it is done",
        "the fee of its singer times the voice that is needed",
        "which comes back with the cue;"})
    static void termsLessTheFeeOfItsSinger() {
        Theatrehouse x = Houses.withPeople(3);
        x.addWork(2, 1);
        x.setRole(0, 1, 1);
        x.setCover(1, 2);
        x.fallIll(1, 1);
        x.addCue(0, 'e', 0, 0, 1, 0);
        x.addCue(0, 'e', 1, 0, 1, 0);
        x.addCue(0, 'l', 0, 1, 1, 0);
        x.addCue(0, 's', 0, 5, 1, 0);
        x.addCue(0, 's', 1, 7, 1, 0);
        x.addCue(0, 's', 0, 1, 1, 0);
        Houses.open(x);
        int[] due = {0, 0, 0, -50, -134, -144};
        for (int i = 0; i < 6; i++) {
            int cue = i;
            x.perform(cue);
            Check.due(due[cue], "when it is done, " + cue, () -> x.balance(0));
        }
        for (int i = 4; i >= 0; i--) {
            int cue = i;
            x.takeBack();
            Check.due(due[cue], "comes back with the cue, " + cue, () -> x.balance(0));
        }
        Houses.perform(x, 1, 2, 3, 4);
        x.end();
        Check.due(-134, "stays", () -> x.balance(0));
    }

    /** So many roles enter with the first cue's minutes spread over nine cues, which take so many minutes in all. */
    private static int overtime(int minutes, int entered) {
        Theatrehouse x = Houses.withRoles(5);
        int left = minutes;
        for (int cue = 0; cue < 9 && left > 0; cue++) {
            int later = 8 - cue;
            int taken = Math.min(60, Math.max(1, left - later));
            x.addCue(0, cue < entered ? 'e' : 'c', cue < entered ? cue : 0, 0, taken, 0);
            left -= taken;
        }
        Houses.open(x);
        for (int cue = 0; cue < x.cues(0); cue++) {
            x.perform(cue);
        }
        int took = x.minutes();
        Check.due(minutes, "the evening", () -> took);
        x.end();
        return -x.balance(0);
    }

    @Says({"less, when an evening ends that took more than 120 minutes, 5 for each ten minutes begun above them",
        "for each one who entered by a cue that stays done, once."})
    static void termsMoreThan120Minutes() {
        for (int minutes = 9; minutes <= 540; minutes += minutes < 100 ? 37 : 1) {
            int steps = 0;
            for (int begun = 120; begun < minutes; begun += 10) {
                steps++;
            }
            for (int entered = 0; entered <= 5; entered++) {
                int took = minutes;
                int count = entered;
                Check.due(5 * steps * entered, minutes + " minutes, " + entered + " entered",
                    () -> overtime(took, count));
            }
        }
    }

    @Says("for each one who entered by a cue that stays done, once.")
    static void termsEachOneWhoEnteredOnce() {
        Theatrehouse x = Houses.withRoles(3);
        x.addCue(0, 'e', 0, 0, 60, 0);
        x.addCue(0, 'x', 0, 0, 30, 0);
        x.addCue(0, 'e', 0, 1, 31, 0);
        x.addCue(0, 'e', 1, 1, 60, 0);
        x.addCue(0, 'g', 0, 0, 60, 0);
        Houses.open(x);
        Houses.perform(x, 0, 1, 2, 3);
        x.takeBack();
        x.end();
        Check.due(-5, "one who entered twice, one whose cue was taken back, one who did not enter", () -> x.balance(0));
        Theatrehouse shared = Houses.withPeople(1);
        shared.addWork(2, 1);
        shared.addCue(0, 'e', 0, 0, 60, 0);
        shared.addCue(0, 'x', 1, 0, 1, 0);
        shared.addCue(0, 'e', 1, 0, 60, 0);
        Houses.open(shared);
        Houses.perform(shared, 0, 1, 2);
        shared.end();
        Check.due(-5, "one who entered in two roles", () -> shared.balance(0));
        Theatrehouse left = Houses.withRoles(2);
        left.addCue(0, 'e', 1, 0, 60, 0);
        left.addCue(0, 'x', 1, 0, 60, 0);
        left.addCue(0, 'c', 0, 0, 1, 0);
        Houses.open(left);
        Houses.perform(left, 0, 1, 2);
        left.end();
        Check.due(-5, "one who entered and left", () -> left.balance(0));
    }

    @Says({"Tickets are sold for a day with an evening that is planned and not over, at most 30, for its price",
        "and can be given back until it begins."})
    static void termsTickets() {
        Theatrehouse x = Houses.rich();
        Check.due(30, "up to 30", () -> x.sell(3, 30));
        Check.due(Check.UNSUPPORTED, "no more", () -> x.sell(3, 1));
        Check.due(350, "for its price", () -> x.balance(0));
        Check.due(4, "given back ahead of it", () -> x.sell(0, -1));
        x.begin();
        Check.due(Check.ELEMENT, "not when it has begun", () -> x.sell(0, -1));
        Check.due(5, "sold when it has begun", () -> x.sell(0, 1));
        Check.due(29, "given back for another day", () -> x.sell(3, -1));
        x.end();
        Check.due(Check.ELEMENT, "not when it is over", () -> x.sell(0, 1));
        Check.due(Check.ELEMENT, "nor given back", () -> x.sell(0, -1));
        Check.due(340, "the balance", () -> x.balance(0));
    }

    // ---- The interface.

    @Says({"Ahead of the calls `addPerson`, `setCover`, `fallIll`, `addMachine`, `setInterlock` the interface says: "
        + "---- people and machines.",
        "Ahead of the calls `addWork`, `setRole`, `addCue`, `cues` the interface says: ---- works.",
        "Ahead of the calls `plan`, `sell`, `pass`, `day`, `begin` the interface says: ---- the season.",
        "Ahead of the calls `perform`, `obstacle`, `takeBack`, `end`, `singer`, `zone`, `voice`, `place`, "
        + "`minutes` the interface says: ---- an evening.",
        "Ahead of the calls `states`, `hasOrder`, `orderAt`, `farthest`, `stuck`, `orders` the interface says: "
        + "---- orders.",
        "Ahead of the calls `balance`, `sung`, `evenings`, `soldShare`, `meanMinutes`, `isConsistent` "
        + "the interface says: ---- books."})
    static void termsTheInterfaceSays() throws IOException {
        String source = Files.readString(Path.of("src/main/java/Theatrehouse.java"));
        String[] rows = {"people and machines: addPerson setCover fallIll addMachine setInterlock",
            "works: addWork setRole addCue cues", "the season: plan sell pass day begin",
            "an evening: perform obstacle takeBack end singer zone voice place minutes",
            "orders: states hasOrder orderAt farthest stuck orders",
            "books: balance sung evenings soldShare meanMinutes isConsistent"};
        int from = 0;
        for (String row : rows) {
            String title = "    // ---- " + row.substring(0, row.indexOf(':')) + ".\n";
            int at = source.indexOf(title, from);
            Check.due(true, "says " + title.trim(), () -> at >= 0);
            from = at;
            for (String name : row.substring(row.indexOf(':') + 2).split(" ")) {
                int call = source.indexOf(" " + name + "(", from);
                Check.due(true, name + " is behind " + title.trim(), () -> call >= 0);
                from = call;
            }
        }
    }
}
