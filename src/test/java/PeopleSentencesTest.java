/** Promises 1 to 6, sentence by sentence. */
public final class PeopleSentencesTest {
    private static final int MIN = Houses.MIN;
    private static final int MAX = Houses.MAX;

    public static void main(String[] args) throws ReflectiveOperationException {
        Sentences.run(PeopleSentencesTest.class);
    }

    // ---- Promise 1: a new object.

    @Says(promise = 1, value = "Creates a house")
    static void promise01Creates() {
        Theatrehouse x = new Theatrehouse();
        Check.due(Check.STATE, "no evening is on", () -> x.minutes());
        Check.due(Check.ELEMENT, "none is planned", () -> x.begin());
        Check.due(0, "none has ended", () -> x.evenings());
        Check.due(Check.ARITHMETIC, "no tickets", () -> x.soldShare());
        Check.due(Check.ARITHMETIC, "no minutes", () -> x.meanMinutes());
        Check.due(true, "it is consistent", () -> x.isConsistent());
        x.addPerson(1, 1);
        Check.due(Check.INDEX, "another house is another one", () -> new Theatrehouse().voice(0));
    }

    @Says(promise = 1, value = "without people")
    static void promise01WithoutPeople() {
        for (int person : new int[] {MIN, -1, 0, 1, MAX}) {
            Twin.refused(Check.INDEX, "voice " + person, Houses.NEW, x -> x.voice(person));
            Twin.refused(Check.INDEX, "sung " + person, Houses.NEW, x -> x.sung(person));
            Twin.refused(Check.INDEX, "fallIll " + person, Houses.NEW, x -> x.fallIll(person, 1));
            Twin.refused(Check.INDEX, "setCover " + person, Houses.NEW, x -> x.setCover(person, -1));
        }
        Twin.due(0, "the first one has the number 0", Houses.NEW, x -> x.addPerson(1, 1));
    }

    @Says(promise = 1, value = "machines")
    static void promise01WithoutMachines() {
        for (int machine : new int[] {MIN, -1, 0, 1, MAX}) {
            Twin.refused(Check.INDEX, "place " + machine, Houses.NEW, x -> x.place(machine));
            Twin.refused(Check.INDEX, "setInterlock " + machine, Houses.NEW, x -> x.setInterlock(machine, -1, 0, 0));
        }
        Twin.due(0, "the first one has the number 0", Houses.NEW, x -> x.addMachine(1, 1));
    }

    @Says(promise = 1, value = "works")
    static void promise01WithoutWorks() {
        for (int work : new int[] {MIN, -1, 0, 1, MAX}) {
            Twin.refused(Check.INDEX, "cues " + work, Houses.NEW, x -> x.cues(work));
            Twin.refused(Check.INDEX, "balance " + work, Houses.NEW, x -> x.balance(work));
            Twin.refused(Check.INDEX, "plan " + work, Houses.NEW, x -> x.plan(work, 0));
            Twin.refused(Check.INDEX, "setRole " + work, Houses.NEW, x -> x.setRole(work, 0, 0));
            Twin.refused(Check.INDEX, "addCue " + work, Houses.NEW, x -> x.addCue(work, 'c', 0, 0, 1, 0));
        }
        Twin.due(0, "the first one has the number 0", Houses.NEW, x -> x.addWork(1, 1));
    }

    @Says(promise = 1, value = "on the day 0")
    static void promise01OnTheDay0() {
        Twin.due(0, "the day", Houses.NEW, x -> x.day());
        Twin.due(30, "30 days on", Houses.NEW, x -> x.pass(30));
    }

    // ---- Promise 2: addPerson.

    /** Who enters a lit zone and sings, for this fee and with this greatest voice. */
    private static Theatrehouse soloist(int fee, int voice, int needed) {
        Theatrehouse x = new Theatrehouse();
        x.addPerson(fee, voice);
        x.addWork(1, 1);
        x.addCue(0, 'e', 0, 0, 1, 0);
        x.addCue(0, 'l', 0, 1, 1, 0);
        x.addCue(0, 's', 0, needed, 1, 0);
        Houses.open(x);
        Houses.perform(x, 0, 1);
        return x;
    }

    @Says(promise = 2, value = "Adds a person")
    static void promise02AddsAPerson() {
        Theatrehouse x = new Theatrehouse();
        x.addPerson(3, 4);
        Check.due(4, "the person is there", () -> x.voice(0));
        Check.due(Check.INDEX, "and no other", () -> x.voice(1));
        Check.due(0, "has not sung", () -> x.sung(0));
        Check.due(-1, "has no cover", () -> x.setCover(0, -1));
        Check.due(Check.INDEX, "can be its own cover no more than another one", () -> x.setCover(0, 0));
        x.addPerson(3, 9);
        Check.due(4, "another one leaves the first one alone", () -> x.voice(0));
        Check.due(9, "and is there, too", () -> x.voice(1));
    }

    @Says(promise = 2, value = "`fee`: the fee, 0 to 99")
    static void promise02FeeIs0To99() {
        for (int fee : new int[] {MIN, -100, -1, 100, 101, MAX}) {
            Twin.refused(Check.ARGUMENT, "the fee " + fee, Houses.RICH, x -> x.addPerson(fee, 5));
        }
        for (int fee : new int[] {0, 1, 98, 99}) {
            Twin.due(4, "the fee " + fee, Houses.RICH, x -> x.addPerson(fee, 5));
            Theatrehouse x = soloist(fee, 30, 30);
            x.perform(2);
            Check.due(-30 * fee, "the fee " + fee + " is paid", () -> x.balance(0));
        }
    }

    @Says(promise = 2, value = "`voice`: the greatest voice, 1 to 30")
    static void promise02VoiceIs1To30() {
        for (int voice : new int[] {MIN, -1, 0, 31, 32, MAX}) {
            Twin.refused(Check.ARGUMENT, "the voice " + voice, Houses.RICH, x -> x.addPerson(5, voice));
        }
        for (int voice : new int[] {1, 2, 29, 30}) {
            Twin.due(4, "the voice " + voice, Houses.RICH, x -> x.addPerson(5, voice));
            Theatrehouse x = soloist(0, voice, voice);
            Check.due(voice, "is the voice at first", () -> x.voice(0));
            x.perform(2);
            Check.due(0, "can be sung", () -> x.voice(0));
            x.end();
            x.pass(10);
            Check.due(voice, "comes back, and no more of it", () -> x.voice(0));
        }
    }

    @Says(promise = 2, value = "Returns the number of the person")
    static void promise02ReturnsTheNumber() {
        Theatrehouse x = new Theatrehouse();
        for (int i = 0; i < 10; i++) {
            int number = i;
            Check.due(number, "person " + i, () -> x.addPerson(number, number + 1));
            Check.due(number + 1, "has this number", () -> x.voice(number));
        }
    }

    @Says(promise = 2, value = "Throws `IllegalArgumentException` if a number is out of range")
    static void promise02ThrowsIfANumberIsOutOfRange() {
        Twin.refused(Check.ARGUMENT, "the fee", Houses.NEW, x -> x.addPerson(100, 30));
        Twin.refused(Check.ARGUMENT, "the voice", Houses.NEW, x -> x.addPerson(99, 31));
        Twin.refused(Check.ARGUMENT, "both", Houses.NEW, x -> x.addPerson(-1, 0));
    }

    @Says(promise = 2, value = "if there are 10 people")
    static void promise02ThrowsIfThereAre10People() {
        Twin.due(9, "there are 9", () -> Houses.withPeople(9), x -> x.addPerson(1, 1));
        Twin.refused(Check.STATE, "there are 10", () -> Houses.withPeople(10), x -> x.addPerson(1, 1));
        Twin.refused(Check.STATE, "the house is full", Houses.FULL, x -> x.addPerson(1, 1));
    }

    @Says(promise = 2, value = "or an evening is on")
    static void promise02ThrowsIfAnEveningIsOn() {
        Twin.refused(Check.STATE, "on", Houses.RICH_ON, x -> x.addPerson(1, 1));
        Theatrehouse x = Houses.richOn();
        x.end();
        Check.due(4, "behind it", () -> x.addPerson(1, 1));
    }

    @Says(promise = 2, value = {"Throws `IllegalArgumentException` if", "Throws `IllegalStateException` if"})
    static void promise02ListedFirst() {
        Twin.House[] houses = {Houses.RICH, Houses.FULL, Houses.RICH_ON, Houses.FULL_ON};
        for (Twin.House house : houses) {
            for (int fee : new int[] {MIN, -1, 0, 99, 100, MAX}) {
                for (int voice : new int[] {MIN, 0, 1, 30, 31, MAX}) {
                    boolean isOut = fee < 0 || fee > 99 || voice < 1 || voice > 30;
                    Object due = isOut ? Check.ARGUMENT : house == Houses.RICH ? (Object) 4 : Check.STATE;
                    Twin.due(due, "addPerson " + fee + " " + voice, house, x -> x.addPerson(fee, voice));
                }
            }
        }
        Twin.refused(Check.ARGUMENT, "out of range, 10 people", Houses.FULL, x -> x.addPerson(100, 1));
        Twin.refused(Check.ARGUMENT, "out of range, an evening is on", Houses.RICH_ON, x -> x.addPerson(1, 31));
        Twin.refused(Check.ARGUMENT, "all three", Houses.FULL_ON, x -> x.addPerson(-1, 0));
        Twin.refused(Check.STATE, "10 people, an evening is on", Houses.FULL_ON, x -> x.addPerson(1, 1));
    }

    // ---- Promise 3: setCover.

    @Says(promise = 3, value = "Sets the cover of a person")
    static void promise03SetsTheCover() {
        Theatrehouse x = Houses.withRoles(2);
        x.addPerson(1, 1);
        x.setCover(0, 2);
        x.fallIll(0, 3);
        x.fallIll(1, 3);
        Houses.open(x);
        Check.due(2, "the cover sings", () -> x.singer(0));
        Check.due(Check.ELEMENT, "no other person has got one", () -> x.singer(1));
        x.end();
        x.pass(1);
        x.setCover(0, -1);
        Houses.open(x);
        Check.due(Check.ELEMENT, "none any more", () -> x.singer(0));
    }

    @Says(promise = 3, value = "`person`: the number of the person")
    static void promise03PersonIsANumber() {
        for (int person : new int[] {MIN, -2, -1, 4, 5, MAX}) {
            Twin.refused(Check.INDEX, "the person " + person, Houses.RICH, x -> x.setCover(person, 2));
        }
        Twin.due(3, "the person 0", Houses.RICH, x -> x.setCover(0, 2));
        Twin.due(-1, "the last person", Houses.RICH, x -> x.setCover(3, 2));
        Twin.due(-1, "the last of 10", Houses.FULL, x -> x.setCover(9, 0));
        Twin.refused(Check.INDEX, "the person 10", Houses.FULL, x -> x.setCover(10, 0));
    }

    @Says(promise = 3, value = "`cover`: the number of another one, or -1 for none")
    static void promise03CoverIsANumberOrNone() {
        for (int cover : new int[] {MIN, -3, -2, 4, 5, MAX}) {
            Twin.refused(Check.INDEX, "the cover " + cover, Houses.RICH, x -> x.setCover(1, cover));
        }
        for (int cover : new int[] {-1, 0, 2, 3}) {
            Theatrehouse x = Houses.rich();
            Check.due(2, "the cover " + cover, () -> x.setCover(1, cover));
            Check.due(cover, "it was set", () -> x.setCover(1, -1));
        }
        Twin.due(-1, "the last of 10", Houses.FULL, x -> x.setCover(0, 9));
        Twin.due(-1, "none of 10", Houses.FULL, x -> x.setCover(0, -1));
        Twin.refused(Check.INDEX, "the cover 10", Houses.FULL, x -> x.setCover(0, 10));
    }

    @Says(promise = 3, value = "Returns the cover before, or -1")
    static void promise03ReturnsTheCoverBefore() {
        Theatrehouse x = Houses.withPeople(10);
        Check.due(-1, "none before", () -> x.setCover(5, 0));
        Check.due(0, "the person 0 before", () -> x.setCover(5, 9));
        Check.due(9, "the person 9 before", () -> x.setCover(5, 9));
        Check.due(9, "the same before", () -> x.setCover(5, -1));
        Check.due(-1, "none again", () -> x.setCover(5, -1));
        Check.due(-1, "none of another one", () -> x.setCover(9, 5));
        Check.due(-1, "none of the cover", () -> x.setCover(0, 5));
    }

    @Says(promise = 3, value = "Throws `IndexOutOfBoundsException` if there is no such person, for either")
    static void promise03ThrowsIfThereIsNoSuchPerson() {
        Twin.refused(Check.INDEX, "the person", Houses.RICH, x -> x.setCover(4, 0));
        Twin.refused(Check.INDEX, "the person, for none", Houses.RICH, x -> x.setCover(4, -1));
        Twin.refused(Check.INDEX, "the cover", Houses.RICH, x -> x.setCover(0, 4));
        Twin.refused(Check.INDEX, "both", Houses.RICH, x -> x.setCover(4, 5));
        Twin.refused(Check.INDEX, "nobody is there", Houses.NEW, x -> x.setCover(0, 1));
    }

    @Says(promise = 3, value = "or they are the same")
    static void promise03ThrowsIfTheyAreTheSame() {
        for (int person = 0; person < 4; person++) {
            int same = person;
            Twin.refused(Check.INDEX, "the person " + same, Houses.RICH, x -> x.setCover(same, same));
        }
        Twin.refused(Check.INDEX, "the last of 10", Houses.FULL, x -> x.setCover(9, 9));
        Twin.refused(Check.INDEX, "the only one", () -> Houses.withPeople(1), x -> x.setCover(0, 0));
        for (int number : new int[] {MIN, -1, 4, MAX}) {
            Twin.refused(Check.INDEX, "the same, and nobody: " + number, Houses.RICH,
                x -> x.setCover(number, number));
        }
    }

    @Says(promise = 3, value = "Throws `IllegalStateException` if an evening is on")
    static void promise03ThrowsIfAnEveningIsOn() {
        Twin.refused(Check.STATE, "another cover", Houses.RICH_ON, x -> x.setCover(0, 2));
        Twin.refused(Check.STATE, "the same cover again", Houses.RICH_ON, x -> x.setCover(0, 3));
        Twin.refused(Check.STATE, "none", Houses.RICH_ON, x -> x.setCover(0, -1));
        Theatrehouse x = Houses.richOn();
        x.end();
        Check.due(3, "behind it", () -> x.setCover(0, 2));
    }

    @Says(promise = 3, value = {"Throws `IndexOutOfBoundsException` if", "Throws `IllegalStateException` if"})
    static void promise03ListedFirst() {
        for (Twin.House house : new Twin.House[] {Houses.RICH, Houses.RICH_ON}) {
            for (int person : new int[] {MIN, -1, 2, 3, 4, MAX}) {
                for (int cover : new int[] {MIN, -2, -1, 2, 3, 4, MAX}) {
                    boolean isNone = person < 0 || person > 3 || cover < -1 || cover > 3 || person == cover;
                    Object due = isNone ? Check.INDEX : house == Houses.RICH_ON ? Check.STATE : (Object) (-1);
                    Twin.due(due, "setCover " + person + " " + cover, house, x -> x.setCover(person, cover));
                }
            }
        }
        Twin.refused(Check.INDEX, "no person, an evening is on", Houses.RICH_ON, x -> x.setCover(4, 0));
        Twin.refused(Check.INDEX, "no cover, an evening is on", Houses.RICH_ON, x -> x.setCover(0, -2));
        Twin.refused(Check.INDEX, "the same, an evening is on", Houses.RICH_ON, x -> x.setCover(0, 0));
    }

    // ---- Promise 4: fallIll.

    /** One person with a role, who falls ill for so many days on the day 2. */
    private static Theatrehouse illOnTheDay2(int days) {
        Theatrehouse x = Houses.withRoles(1);
        x.pass(2);
        x.fallIll(0, days);
        return x;
    }

    /** Whether there is a singer on this day, which comes to pass. */
    private static boolean sings(Theatrehouse x, int day) {
        for (int i = 0; i < 3 && x.day() < day; i++) {
            x.pass(Math.min(30, day - x.day()));
        }
        Houses.open(x);
        boolean isThere = Check.answer(() -> x.singer(0)) != Check.ELEMENT;
        x.end();
        return isThere;
    }

    @Says(promise = 4, value = "Makes a person ill from today on")
    static void promise04IllFromTodayOn() {
        Check.due(false, "today", () -> sings(illOnTheDay2(1), 2));
        Check.due(true, "the person alone", () -> {
            Theatrehouse x = Houses.withPeople(2);
            x.addWork(1, 1);
            x.fallIll(1, 30);
            return sings(x, 0);
        });
        Check.due(4, "today was the first day", () -> {
            Theatrehouse x = illOnTheDay2(1);
            return x.fallIll(0, 3);
        });
    }

    @Says(promise = 4, value = "an evening that is on is not touched")
    static void promise04AnEveningIsNotTouched() {
        Theatrehouse x = Houses.richOn();
        Check.due(0, "the singer falls ill", () -> x.fallIll(0, 1));
        Check.due(0, "and sings on", () -> x.singer(0));
        Check.due(1, "and is where the singer was", () -> x.zone(0));
        Check.due(2, "the last cue can be taken back", () -> x.takeBack());
        Check.due(65, "and be done again", () -> x.perform(2));
        Check.due(12, "with the singer's voice", () -> x.voice(0));
        Check.due(0, "the cover falls ill", () -> x.fallIll(2, 1));
        Check.due(2, "and sings on, too", () -> x.singer(1));
        Check.due(-1, "the person is well again", () -> x.fallIll(1, 0));
        Check.due(2, "the cover sings on", () -> x.singer(1));
        Check.due(true, "the same orders", () -> x.orders() == Houses.richOn().orders());
    }

    @Says(promise = 4, value = "`person`: the number of the person")
    static void promise04PersonIsANumber() {
        for (int person : new int[] {MIN, -1, 4, 5, MAX}) {
            Twin.refused(Check.INDEX, "the person " + person, Houses.RICH, x -> x.fallIll(person, 1));
            Twin.refused(Check.INDEX, "while on, " + person, Houses.RICH_ON, x -> x.fallIll(person, 1));
        }
        Twin.due(0, "the person 0", Houses.RICH, x -> x.fallIll(0, 1));
        Twin.due(0, "the last person", Houses.RICH, x -> x.fallIll(3, 1));
        Twin.due(0, "the last of 10", Houses.FULL, x -> x.fallIll(9, 1));
        Twin.refused(Check.INDEX, "the person 10", Houses.FULL, x -> x.fallIll(10, 1));
    }

    @Says(promise = 4, value = "`days`: the number of days, today being the first one, 0 for being well again, to 30")
    static void promise04DaysAre0To30() {
        for (int days : new int[] {MIN, -30, -1, 31, 32, MAX}) {
            Twin.refused(Check.ARGUMENT, days + " days", Houses.RICH, x -> x.fallIll(1, days));
        }
        Check.due(true, "0 days, today", () -> sings(illOnTheDay2(0), 2));
        Check.due(false, "1 day, today", () -> sings(illOnTheDay2(1), 2));
        Check.due(true, "1 day, tomorrow", () -> sings(illOnTheDay2(1), 3));
        Check.due(false, "2 days, tomorrow", () -> sings(illOnTheDay2(2), 3));
        Check.due(true, "2 days, the day behind", () -> sings(illOnTheDay2(2), 4));
        Check.due(false, "30 days, the last one", () -> sings(illOnTheDay2(30), 31));
        Check.due(true, "30 days, the day behind", () -> sings(illOnTheDay2(30), 32));
        Check.due(false, "29 days, the last one", () -> sings(illOnTheDay2(29), 30));
        Check.due(true, "29 days, the day behind", () -> sings(illOnTheDay2(29), 31));
    }

    @Says(promise = 4, value = "0 for being well again")
    static void promise04ZeroIsWellAgain() {
        Theatrehouse x = Houses.withRoles(1);
        x.fallIll(0, 30);
        Check.due(-1, "well again", () -> x.fallIll(0, 0));
        Check.due(true, "today", () -> sings(x, 0));
        Check.due(true, "tomorrow", () -> sings(x, 1));
        Check.due(-1, "well, and well again", () -> x.fallIll(0, 0));
        Check.due(true, "the day behind", () -> sings(x, 2));
    }

    @Says(promise = 4, value = "Returns the last day on which the person is ill, or -1")
    static void promise04ReturnsTheLastDay() {
        Twin.due(-1, "0 days", Houses.RICH, x -> x.fallIll(1, 0));
        Twin.due(0, "1 day", Houses.RICH, x -> x.fallIll(1, 1));
        Twin.due(29, "30 days", Houses.RICH, x -> x.fallIll(1, 30));
        Theatrehouse x = Houses.rich();
        x.pass(30);
        x.pass(30);
        x.pass(30);
        Check.due(-1, "0 days on the day 90", () -> x.fallIll(1, 0));
        Check.due(90, "1 day on the day 90", () -> x.fallIll(1, 1));
        Check.due(119, "30 days on the day 90", () -> x.fallIll(1, 30));
        x.pass(9);
        Check.due(99, "1 day on the last day", () -> x.fallIll(1, 1));
        Check.due(128, "30 days on the last day", () -> x.fallIll(1, 30));
        Check.due(-1, "0 days on the last day", () -> x.fallIll(1, 0));
    }

    @Says(promise = 4, value = "Throws `IndexOutOfBoundsException` if there is no such person")
    static void promise04ThrowsIfThereIsNoSuchPerson() {
        Twin.refused(Check.INDEX, "nobody is there", Houses.NEW, x -> x.fallIll(0, 0));
        Twin.refused(Check.INDEX, "the fifth of four", Houses.RICH, x -> x.fallIll(4, 30));
        Twin.refused(Check.INDEX, "below", Houses.RICH, x -> x.fallIll(-1, 0));
    }

    @Says(promise = 4, value = "Throws `IllegalArgumentException` if the number is out of range")
    static void promise04ThrowsIfTheNumberIsOutOfRange() {
        for (int person = 0; person < 4; person++) {
            int ill = person;
            Twin.refused(Check.ARGUMENT, "31 days", Houses.RICH, x -> x.fallIll(ill, 31));
            Twin.refused(Check.ARGUMENT, "-1 days", Houses.RICH_ON, x -> x.fallIll(ill, -1));
        }
    }

    @Says(promise = 4, value = {"Throws `IndexOutOfBoundsException` if", "Throws `IllegalArgumentException` if"})
    static void promise04ListedFirst() {
        for (Twin.House house : new Twin.House[] {Houses.RICH, Houses.RICH_ON}) {
            for (int person : new int[] {MIN, -1, 0, 3, 4, MAX}) {
                for (int days : new int[] {MIN, -1, 0, 30, 31, MAX}) {
                    Object due = person < 0 || person > 3 ? Check.INDEX
                        : days < 0 || days > 30 ? Check.ARGUMENT : (Object) (days - 1);
                    Twin.due(due, "fallIll " + person + " " + days, house, x -> x.fallIll(person, days));
                }
            }
        }
        Twin.refused(Check.INDEX, "nobody, and too many days", Houses.RICH, x -> x.fallIll(4, 31));
        Twin.refused(Check.INDEX, "nobody, and too few days", Houses.RICH, x -> x.fallIll(-1, -1));
    }

    // ---- Promise 5: addMachine.

    /** A machine of this limit over the zone 3, and so many who have entered it and were told clear. */
    private static Theatrehouse underAMachine(int limit, int people) {
        Theatrehouse x = Houses.withRoles(5);
        x.addMachine(3, limit);
        for (int i = 0; i < 5; i++) {
            x.addCue(0, 'e', i, 3, 1, 0);
        }
        x.addCue(0, 'c', 3, 0, 1, 0);
        x.addCue(0, 'm', 0, 1, 1, 0);
        Houses.open(x);
        for (int i = 0; i < people; i++) {
            x.perform(i);
        }
        x.perform(5);
        return x;
    }

    @Says(promise = 5, value = "Adds a machine")
    static void promise05AddsAMachine() {
        Theatrehouse x = new Theatrehouse();
        x.addMachine(1, 1);
        Check.due(0, "the machine is there", () -> x.place(0));
        Check.due(Check.INDEX, "and no other", () -> x.place(1));
        Check.due(-1, "it has no interlock", () -> x.setInterlock(0, -1, 0, 7));
    }

    @Says(promise = 5, value = "`zone`: its zone, 0 to 4")
    static void promise05ZoneIs0To4() {
        for (int zone : new int[] {MIN, -2, -1, 5, 6, MAX}) {
            Twin.refused(Check.ARGUMENT, "the zone " + zone, Houses.RICH, x -> x.addMachine(zone, 5));
        }
        for (int zone = 0; zone < 5; zone++) {
            int of = zone;
            Twin.due(3, "the zone " + zone, Houses.RICH, x -> x.addMachine(of, 5));
            Theatrehouse x = Houses.withRoles(1);
            x.addMachine(of, 0);
            x.addCue(0, 'm', 0, 1, 1, 0);
            for (int i = 0; i < 5; i++) {
                x.addCue(0, 'e', 0, i, 1, 0);
            }
            Houses.open(x);
            for (int i = 0; i < 5; i++) {
                x.perform(1 + i);
                Check.due(i == of ? 'u' : '-', "who is in the zone " + i + " is under a machine over " + of,
                    () -> x.obstacle(0));
                x.takeBack();
            }
        }
    }

    @Says(promise = 5, value = "`limit`: its limit, 0 to 9")
    static void promise05LimitIs0To9() {
        for (int limit : new int[] {MIN, -2, -1, 10, 11, MAX}) {
            Twin.refused(Check.ARGUMENT, "the limit " + limit, Houses.RICH, x -> x.addMachine(1, limit));
        }
        for (int limit = 0; limit < 10; limit++) {
            int of = limit;
            Twin.due(3, "the limit " + limit, Houses.RICH, x -> x.addMachine(1, of));
            for (int people = 0; people <= 5; people++) {
                Theatrehouse x = underAMachine(limit, people);
                Check.due(people > limit ? 'o' : '-', people + " under the limit " + limit, () -> x.obstacle(6));
            }
        }
    }

    @Says(promise = 5, value = "Returns the number of the machine")
    static void promise05ReturnsTheNumber() {
        Theatrehouse x = new Theatrehouse();
        for (int i = 0; i < 6; i++) {
            int number = i;
            Check.due(number, "machine " + i, () -> x.addMachine(number % 5, number));
            Check.due(0, "has this number", () -> x.place(number));
            Check.due(Check.INDEX, "and none the next", () -> x.place(number + 1));
        }
    }

    @Says(promise = 5, value = "Throws `IllegalArgumentException` if a number is out of range")
    static void promise05ThrowsIfANumberIsOutOfRange() {
        Twin.refused(Check.ARGUMENT, "the zone", Houses.NEW, x -> x.addMachine(5, 9));
        Twin.refused(Check.ARGUMENT, "the limit", Houses.NEW, x -> x.addMachine(4, 10));
        Twin.refused(Check.ARGUMENT, "both", Houses.NEW, x -> x.addMachine(-1, -1));
    }

    @Says(promise = 5, value = "if there are 6 machines")
    static void promise05ThrowsIfThereAre6Machines() {
        Twin.due(5, "there are 5", () -> Houses.withMachines(5), x -> x.addMachine(1, 1));
        Twin.refused(Check.STATE, "there are 6", () -> Houses.withMachines(6), x -> x.addMachine(1, 1));
        Twin.refused(Check.STATE, "the house is full", Houses.FULL, x -> x.addMachine(0, 0));
    }

    @Says(promise = 5, value = "or an evening is on")
    static void promise05ThrowsIfAnEveningIsOn() {
        Twin.refused(Check.STATE, "on", Houses.RICH_ON, x -> x.addMachine(1, 1));
        Theatrehouse x = Houses.richOn();
        x.end();
        Check.due(3, "behind it", () -> x.addMachine(1, 1));
    }

    @Says(promise = 5, value = {"Throws `IllegalArgumentException` if", "Throws `IllegalStateException` if"})
    static void promise05ListedFirst() {
        Twin.House[] houses = {Houses.RICH, Houses.FULL, Houses.RICH_ON, Houses.FULL_ON};
        for (Twin.House house : houses) {
            for (int zone : new int[] {MIN, -1, 0, 4, 5, MAX}) {
                for (int limit : new int[] {MIN, -1, 0, 9, 10, MAX}) {
                    boolean isOut = zone < 0 || zone > 4 || limit < 0 || limit > 9;
                    Object due = isOut ? Check.ARGUMENT : house == Houses.RICH ? (Object) 3 : Check.STATE;
                    Twin.due(due, "addMachine " + zone + " " + limit, house, x -> x.addMachine(zone, limit));
                }
            }
        }
        Twin.refused(Check.ARGUMENT, "out of range, 6 machines", Houses.FULL, x -> x.addMachine(5, 1));
        Twin.refused(Check.ARGUMENT, "out of range, an evening is on", Houses.RICH_ON, x -> x.addMachine(1, 10));
        Twin.refused(Check.ARGUMENT, "all three", Houses.FULL_ON, x -> x.addMachine(-1, -1));
        Twin.refused(Check.STATE, "6 machines, an evening is on", Houses.FULL_ON, x -> x.addMachine(1, 1));
    }

    // ---- Promise 6: setInterlock.

    /** The machine 1 is bound to the machine 0, which can be moved to each place by the cue of its number. */
    private static Theatrehouse locked(int low, int high) {
        Theatrehouse x = Houses.withRoles(1);
        x.addMachine(0, 9);
        x.addMachine(1, 9);
        x.setInterlock(1, 0, low, high);
        for (int place = 0; place < 8; place++) {
            x.addCue(0, 'm', 0, place, 1, 0);
        }
        x.addCue(0, 'm', 1, 7, 1, 0);
        Houses.open(x);
        return x;
    }

    private static char obstacleAt(int place, int low, int high) {
        Theatrehouse x = locked(low, high);
        if (place > 0) {
            x.perform(place);
        }
        return x.obstacle(8);
    }

    @Says(promise = 6, value = "Sets the interlock of a machine, in place of the one before")
    static void promise06SetsTheInterlock() {
        Theatrehouse x = Houses.withRoles(1);
        for (int i = 0; i < 3; i++) {
            x.addMachine(i, 9);
            x.addCue(0, 'm', i, 1, 1, 0);
        }
        x.setInterlock(0, 1, 1, 1);
        x.setInterlock(0, 2, 1, 1);
        Houses.open(x);
        Check.due('i', "neither has moved", () -> x.obstacle(0));
        x.perform(1);
        Check.due('i', "the one before does not count", () -> x.obstacle(0));
        x.takeBack();
        x.perform(2);
        Check.due('-', "the other one counts", () -> x.obstacle(0));
        x.end();
        x.pass(1);
        x.setInterlock(0, 2, 0, 0);
        Houses.open(x);
        Check.due('-', "other places of the same one", () -> x.obstacle(0));
        x.end();
        x.pass(1);
        x.setInterlock(0, 2, 5, 5);
        x.setInterlock(0, -1, 5, 5);
        Houses.open(x);
        Check.due('-', "none", () -> x.obstacle(0));
    }

    @Says(promise = 6, value = "`machine`: the number of the machine")
    static void promise06MachineIsANumber() {
        for (int machine : new int[] {MIN, -2, -1, 3, 4, MAX}) {
            Twin.refused(Check.INDEX, "the machine " + machine, Houses.RICH, x -> x.setInterlock(machine, 2, 0, 7));
        }
        Twin.due(2, "the machine 0", Houses.RICH, x -> x.setInterlock(0, 1, 0, 7));
        Twin.due(-1, "the last machine", Houses.RICH, x -> x.setInterlock(2, 1, 0, 7));
        Twin.due(-1, "the last of 6", Houses.FULL, x -> x.setInterlock(5, 0, 0, 7));
        Twin.refused(Check.INDEX, "the machine 6", Houses.FULL, x -> x.setInterlock(6, 0, 0, 7));
    }

    @Says(promise = 6, value = "`other`: the other machine, or -1 for no interlock")
    static void promise06OtherIsANumberOrNone() {
        for (int other : new int[] {MIN, -3, -2, 3, 4, MAX}) {
            Twin.refused(Check.INDEX, "the other " + other, Houses.RICH, x -> x.setInterlock(1, other, 0, 7));
        }
        for (int other : new int[] {-1, 0, 2}) {
            Theatrehouse x = Houses.rich();
            Check.due(0, "the other " + other, () -> x.setInterlock(1, other, 0, 7));
            Check.due(other, "it was set", () -> x.setInterlock(1, -1, 0, 7));
        }
        Twin.due(-1, "the last of 6", Houses.FULL, x -> x.setInterlock(0, 5, 0, 7));
        Twin.due(-1, "none of 6", Houses.FULL, x -> x.setInterlock(0, -1, 0, 7));
        Twin.refused(Check.INDEX, "the other 6", Houses.FULL, x -> x.setInterlock(0, 6, 0, 7));
    }

    @Says(promise = 6, value = "`low`: the lowest place, 0 to 7")
    static void promise06LowIs0To7() {
        for (int low : new int[] {MIN, -8, -1, 8, 9, MAX}) {
            Twin.refused(Check.ARGUMENT, "low " + low, Houses.RICH, x -> x.setInterlock(1, 2, low, 7));
            Twin.refused(Check.ARGUMENT, "both " + low, Houses.RICH, x -> x.setInterlock(1, 2, low, low));
        }
        for (int low = 0; low < 8; low++) {
            int lowest = low;
            Twin.due(0, "low " + low, Houses.RICH, x -> x.setInterlock(1, 2, lowest, 7));
            for (int place = 0; place < 8; place++) {
                int at = place;
                Check.due(place < low ? 'i' : '-', "at " + place + ", lowest " + low, () -> obstacleAt(at, lowest, 7));
            }
        }
    }

    @Says(promise = 6, value = "`high`: the greatest place, the lowest one to 7")
    static void promise06HighIsTheLowestOneTo7() {
        for (int low = 0; low < 8; low++) {
            for (int high : new int[] {MIN, -1, low - 1, 8, 9, MAX}) {
                int lowest = low;
                Twin.refused(Check.ARGUMENT, low + " to " + high, Houses.RICH,
                    x -> x.setInterlock(1, 2, lowest, high));
            }
        }
        for (int high = 0; high < 8; high++) {
            int highest = high;
            Twin.due(0, "high is low, " + high, Houses.RICH, x -> x.setInterlock(1, 2, highest, highest));
            for (int place = 0; place < 8; place++) {
                int at = place;
                Check.due(place > high ? 'i' : '-', "at " + place + ", highest " + high,
                    () -> obstacleAt(at, 0, highest));
                Check.due(place != high ? 'i' : '-', "at " + place + ", only at " + high,
                    () -> obstacleAt(at, highest, highest));
            }
        }
    }

    @Says(promise = 6, value = "Returns the other machine before, or -1")
    static void promise06ReturnsTheOtherBefore() {
        Theatrehouse x = Houses.withMachines(6);
        Check.due(-1, "none before", () -> x.setInterlock(3, 0, 0, 0));
        Check.due(0, "the machine 0 before", () -> x.setInterlock(3, 5, 7, 7));
        Check.due(5, "the machine 5 before", () -> x.setInterlock(3, 5, 0, 7));
        Check.due(5, "the same before", () -> x.setInterlock(3, -1, 0, 7));
        Check.due(-1, "none again", () -> x.setInterlock(3, -1, 0, 7));
        Check.due(-1, "none of another one", () -> x.setInterlock(5, 3, 0, 7));
        Check.due(3, "each may be the other's other", () -> {
            x.setInterlock(3, 5, 0, 0);
            return x.setInterlock(5, 3, 0, 0);
        });
    }

    @Says(promise = 6, value = "Throws `IndexOutOfBoundsException` if there is no such machine, for either")
    static void promise06ThrowsIfThereIsNoSuchMachine() {
        Twin.refused(Check.INDEX, "the machine", Houses.RICH, x -> x.setInterlock(3, 0, 0, 7));
        Twin.refused(Check.INDEX, "the machine, for none", Houses.RICH, x -> x.setInterlock(3, -1, 0, 7));
        Twin.refused(Check.INDEX, "the other", Houses.RICH, x -> x.setInterlock(0, 3, 0, 7));
        Twin.refused(Check.INDEX, "both", Houses.RICH, x -> x.setInterlock(3, 4, 0, 7));
        Twin.refused(Check.INDEX, "none is there", Houses.NEW, x -> x.setInterlock(0, 1, 0, 7));
    }

    @Says(promise = 6, value = "or they are the same")
    static void promise06ThrowsIfTheyAreTheSame() {
        for (int machine = 0; machine < 3; machine++) {
            int same = machine;
            Twin.refused(Check.INDEX, "the machine " + same, Houses.RICH, x -> x.setInterlock(same, same, 0, 7));
        }
        Twin.refused(Check.INDEX, "the last of 6", Houses.FULL, x -> x.setInterlock(5, 5, 0, 7));
        for (int number : new int[] {MIN, -1, 3, MAX}) {
            Twin.refused(Check.INDEX, "the same, and none: " + number, Houses.RICH,
                x -> x.setInterlock(number, number, 0, 7));
        }
    }

    @Says(promise = 6, value = "Throws `IllegalArgumentException` if a place is out of range")
    static void promise06ThrowsIfAPlaceIsOutOfRange() {
        Twin.refused(Check.ARGUMENT, "the lowest", Houses.RICH, x -> x.setInterlock(1, 0, -1, 4));
        Twin.refused(Check.ARGUMENT, "the greatest", Houses.RICH, x -> x.setInterlock(1, 0, 2, 8));
        Twin.refused(Check.ARGUMENT, "the greatest below the lowest", Houses.RICH, x -> x.setInterlock(1, 0, 4, 3));
        Twin.refused(Check.ARGUMENT, "both", Houses.RICH, x -> x.setInterlock(1, 0, 8, -1));
        Twin.refused(Check.ARGUMENT, "for no interlock, the lowest", Houses.RICH, x -> x.setInterlock(1, -1, -1, 4));
        Twin.refused(Check.ARGUMENT, "for no interlock, the greatest", Houses.RICH, x -> x.setInterlock(1, -1, 0, 8));
        Twin.refused(Check.ARGUMENT, "for no interlock, both", Houses.RICH, x -> x.setInterlock(1, -1, 1, 0));
    }

    @Says(promise = 6, value = "Throws `IllegalStateException` if an evening is on")
    static void promise06ThrowsIfAnEveningIsOn() {
        Twin.refused(Check.STATE, "another interlock", Houses.RICH_ON, x -> x.setInterlock(1, 2, 0, 7));
        Twin.refused(Check.STATE, "the same one, other places", Houses.RICH_ON, x -> x.setInterlock(1, 0, 0, 0));
        Twin.refused(Check.STATE, "none", Houses.RICH_ON, x -> x.setInterlock(1, -1, 0, 7));
        Theatrehouse x = Houses.richOn();
        x.end();
        Check.due(0, "behind it", () -> x.setInterlock(1, 2, 0, 7));
    }

    @Says(promise = 6, value = {"Throws `IndexOutOfBoundsException` if", "Throws `IllegalArgumentException` if",
        "Throws `IllegalStateException` if"})
    static void promise06ListedFirst() {
        int[] places = {MIN, -1, 0, 3, 7, 8, MAX};
        for (Twin.House house : new Twin.House[] {Houses.RICH, Houses.RICH_ON}) {
            for (int pair = 0; pair < 42; pair++) {
                int machine = new int[] {MIN, -1, 1, 2, 3, MAX}[pair / 7];
                int other = new int[] {MIN, -2, -1, 1, 2, 3, MAX}[pair % 7];
                for (int low : places) {
                    for (int high : places) {
                        boolean isNone = machine < 0 || machine > 2 || other < -1 || other > 2 || machine == other;
                        boolean isOut = low < 0 || low > 7 || high < low || high > 7;
                        Object due = isNone ? Check.INDEX : isOut ? Check.ARGUMENT
                            : house == Houses.RICH_ON ? Check.STATE : (Object) (machine == 1 ? 0 : -1);
                        Twin.due(due, "setInterlock " + machine + " " + other + " " + low + " " + high, house,
                            x -> x.setInterlock(machine, other, low, high));
                    }
                }
            }
        }
        Twin.refused(Check.INDEX, "the same, places out of range", Houses.RICH, x -> x.setInterlock(1, 1, 8, 8));
        Twin.refused(Check.INDEX, "the same, and an evening is on", Houses.RICH_ON, x -> x.setInterlock(1, 1, 0, 7));
        Twin.refused(Check.INDEX, "all three", Houses.RICH_ON, x -> x.setInterlock(3, 1, 5, 4));
        Twin.refused(Check.ARGUMENT, "places, and an evening is on", Houses.RICH_ON,
            x -> x.setInterlock(1, 0, 5, 4));
    }
}
