/** Promises 31 to 36, sentence by sentence. */
public final class BooksSentencesTest {
    private static final int MIN = Houses.MIN;
    private static final int MAX = Houses.MAX;

    public static void main(String[] args) throws ReflectiveOperationException {
        Sentences.run(BooksSentencesTest.class);
    }

    /** The rich house on the day behind its evening, whose books are 50 for tickets less 80 for a song. */
    private static Theatrehouse dayBehind() {
        Theatrehouse x = Houses.richOn();
        x.end();
        x.pass(1);
        return x;
    }

    /** One person, and a work with one cue of so many minutes. */
    private static Theatrehouse withMinutes(int minutes) {
        Theatrehouse x = Houses.withPeople(1);
        x.addWork(1, 99);
        x.addCue(0, 'c', 0, 0, minutes, 0);
        return x;
    }

    // ---- Promise 31: balance.

    @Says(promise = 31, value = {"Returns the balance of a work", "Returns the balance"})
    static void promise31ReturnsTheBalance() {
        Twin.due(50, "tickets of the first work", Houses.RICH, x -> x.balance(0));
        Twin.due(21, "tickets of the second work", Houses.RICH, x -> x.balance(1));
        Twin.due(-30, "less a song", Houses.RICH_ON, x -> x.balance(0));
        Twin.due(21, "the other work's is left alone", Houses.RICH_ON, x -> x.balance(1));
        Twin.due(-30, "the day behind", () -> dayBehind(), x -> x.balance(0));
        Theatrehouse x = withMinutes(1);
        for (int day = 0; day < 100; day++) {
            x.plan(0, day);
            x.sell(day, 30);
        }
        Check.due(297000, "as many tickets as there can be", () -> x.balance(0));
        Check.due(0, "0 at first", () -> withMinutes(1).balance(0));
    }

    @Says(promise = 31, value = {"`work`: the number of the work",
        "Throws `IndexOutOfBoundsException` if there is no such work"})
    static void promise31ThrowsIfThereIsNoSuchWork() {
        for (int work : new int[] {MIN, -1, 2, 3, MAX}) {
            Twin.refused(Check.INDEX, "the work " + work, Houses.RICH, x -> x.balance(work));
            Twin.refused(Check.INDEX, "while on, " + work, Houses.RICH_ON, x -> x.balance(work));
        }
        Twin.refused(Check.INDEX, "none at all", Houses.NEW, x -> x.balance(0));
        Twin.due(0, "the last of 3", Houses.FULL, x -> x.balance(2));
        for (int work : new int[] {MIN, -1, 3, MAX}) {
            Twin.refused(Check.INDEX, "of 3, the work " + work, Houses.FULL, x -> x.balance(work));
        }
    }

    // ---- Promise 32: sung.

    @Says(promise = 32, value = {"Returns how much voice a person has sung in all", "Returns the voice"})
    static void promise32ReturnsHowMuchWasSung() {
        Theatrehouse x = EveningTest.singing(30, 30);
        Check.due(0, "none at first", () -> x.sung(0));
        Houses.perform(x, 0, 1, 2);
        Check.due(30, "the greatest voice", () -> x.sung(0));
        x.end();
        for (int evening = 2; evening <= 4; evening++) {
            int due = 30 * evening;
            x.pass(10);
            Houses.open(x);
            Houses.perform(x, 0, 1, 2);
            Check.due(due, evening + " evenings", () -> x.sung(0));
            x.end();
            Check.due(due, evening + " evenings that ended", () -> x.sung(0));
        }
        Twin.due(8, "one song of the first person", Houses.RICH_ON, y -> y.sung(0));
        Twin.due(0, "of no other", Houses.RICH_ON, y -> y.sung(1));
        Twin.due(8, "the day behind", () -> dayBehind(), y -> y.sung(0));
    }

    @Says(promise = 32, value = "by cues that stay done")
    static void promise32ByCuesThatStayDone() {
        Theatrehouse x = EveningTest.singing(20, 7);
        Houses.perform(x, 0, 1, 2);
        x.takeBack();
        Check.due(0, "taken back", () -> x.sung(0));
        x.perform(2);
        Check.due(7, "done again", () -> x.sung(0));
        x.end();
        Check.due(7, "stays", () -> x.sung(0));
        x.pass(1);
        Houses.open(x);
        Houses.perform(x, 0, 1, 2);
        x.takeBack();
        x.end();
        Check.due(7, "the second evening's was taken back", () -> x.sung(0));
    }

    @Says(promise = 32, value = {"`person`: the number of the person",
        "Throws `IndexOutOfBoundsException` if there is no such person"})
    static void promise32ThrowsIfThereIsNoSuchPerson() {
        for (int count = 0; count <= 10; count++) {
            int people = count;
            Twin.House house = () -> Houses.withPeople(people);
            for (int person : new int[] {MIN, -1, count, count + 1, MAX}) {
                Twin.refused(Check.INDEX, "the person " + person + " of " + count, house, x -> x.sung(person));
            }
            if (count > 0) {
                Twin.due(0, "the first of " + count, house, x -> x.sung(0));
                Twin.due(0, "the last of " + count, house, x -> x.sung(people - 1));
            }
        }
        Twin.refused(Check.INDEX, "while an evening is on", Houses.RICH_ON, x -> x.sung(4));
    }

    // ---- Promise 33: evenings.

    @Says(promise = 33, value = {"Returns how many evenings have ended", "Returns the number of evenings"})
    static void promise33ReturnsHowManyHaveEnded() {
        Twin.due(0, "none at all", Houses.NEW, x -> x.evenings());
        Twin.due(0, "planned", Houses.RICH, x -> x.evenings());
        Twin.due(0, "on", Houses.RICH_ON, x -> x.evenings());
        Twin.due(1, "ended", () -> dayBehind(), x -> x.evenings());
        Theatrehouse missed = Houses.rich();
        missed.pass(4);
        Check.due(0, "three did not begin", () -> missed.evenings());
        Theatrehouse x = withMinutes(1);
        for (int day = 0; day < 100; day++) {
            int ended = day + 1;
            x.plan(0, day);
            x.begin();
            x.end();
            Check.due(ended, "as many as there can be", () -> x.evenings());
            if (day < 99) {
                x.pass(1);
            }
        }
    }

    // ---- Promise 34: soldShare.

    @Says(promise = 34, value = {"Returns the share of the tickets that were sold", "planned, on or ended"})
    static void promise34OfAllEvenings() {
        Theatrehouse x = withMinutes(1);
        for (int day = 0; day < 4; day++) {
            x.plan(0, day);
            x.sell(day, 5 + day);
        }
        Check.due((float) 26 / (float) 120, "four are planned", () -> x.soldShare());
        x.begin();
        Check.due((float) 26 / (float) 120, "one is on", () -> x.soldShare());
        x.sell(0, 10);
        Check.due((float) 36 / (float) 120, "sold while it is on", () -> x.soldShare());
        x.end();
        Check.due((float) 36 / (float) 120, "one has ended", () -> x.soldShare());
        x.pass(2);
        Check.due((float) 30 / (float) 90, "one did not begin", () -> x.soldShare());
        x.begin();
        x.end();
        x.pass(2);
        Check.due((float) 22 / (float) 60, "two have ended, two did not begin", () -> x.soldShare());
    }

    @Says(promise = 34, value = {"for all evenings that are",
        "Returns the number of tickets divided by 30 times that of the evenings, both converted to float"})
    static void promise34TicketsDividedBy30TimesTheEvenings() {
        for (int tickets = 0; tickets <= 30; tickets++) {
            int sold = tickets;
            Theatrehouse x = withMinutes(1);
            x.plan(0, 99);
            if (tickets > 0) {
                x.sell(99, tickets);
            }
            Check.due((float) sold / (float) 30, tickets + " of 30", () -> x.soldShare());
        }
        Theatrehouse x = withMinutes(1);
        int all = 0;
        for (int day = 0; day < 100; day++) {
            int count = day + 1;
            int tickets = 1 + (day * 7 + 3) % 30;
            x.plan(0, day);
            x.sell(day, tickets);
            all += tickets;
            int sold = all;
            Check.due((float) sold / (float) (30 * count), count + " evenings", () -> x.soldShare());
        }
        Theatrehouse full = withMinutes(1);
        for (int day = 0; day < 100; day++) {
            full.plan(0, day);
            full.sell(day, 30);
        }
        Check.due(1f, "as many as there can be", () -> full.soldShare());
        Theatrehouse none = withMinutes(1);
        for (int day = 0; day < 100; day++) {
            none.plan(0, day);
        }
        Check.due(0f, "none of 3000", () -> none.soldShare());
        none.sell(50, 1);
        Check.due((float) 1 / (float) 3000, "one of 3000", () -> none.soldShare());
    }

    @Says(promise = 34, value = "Throws `ArithmeticException` if there are no such evenings")
    static void promise34ThrowsIfThereAreNoSuchEvenings() {
        Twin.refused(Check.ARITHMETIC, "a new house", Houses.NEW, x -> x.soldShare());
        Twin.refused(Check.ARITHMETIC, "a work without an evening", () -> withMinutes(1), x -> x.soldShare());
        Twin.refused(Check.ARITHMETIC, "three that did not begin", () -> {
            Theatrehouse x = Houses.rich();
            x.pass(4);
            return x;
        }, x -> x.soldShare());
        Twin.due(0f, "one that is planned", () -> Houses.withFreeCues(0), x -> x.soldShare());
        Twin.due(0f, "one that is on", Houses::onWithoutCues, x -> x.soldShare());
        Twin.due(0f, "one that has ended", Houses::onWithoutCues, x -> {
            x.end();
            return x.soldShare();
        });
    }

    // ---- Promise 35: meanMinutes.

    @Says(promise = 35, value = {"Returns the mean minutes of the evenings that have ended",
        "Returns the sum of the minutes divided by their number, both converted to double"})
    static void promise35ReturnsTheMeanMinutes() {
        Theatrehouse x = Houses.withPeople(1);
        x.addWork(1, 1);
        int[] minutes = {1, 60, 7, 13, 29, 31, 47, 59, 60};
        for (int each : minutes) {
            x.addCue(0, 'c', 0, 0, each, 0);
        }
        int sum = 0;
        for (int evening = 1; evening <= 20; evening++) {
            Houses.open(x);
            for (int cue = 0; cue < evening % 10; cue++) {
                x.perform(cue);
                sum += minutes[cue];
            }
            x.end();
            int count = evening;
            int all = sum;
            Check.due((double) all / (double) count, count + " evenings", () -> x.meanMinutes());
            x.pass(1);
        }
        Theatrehouse none = Houses.onWithoutCues();
        none.end();
        Check.due(0.0, "an evening without minutes", () -> none.meanMinutes());
    }

    @Says(promise = 35, value = "that have ended")
    static void promise35OnlyThoseThatHaveEnded() {
        Theatrehouse x = withMinutes(60);
        Houses.open(x);
        x.perform(0);
        x.end();
        x.pass(1);
        x.plan(0, 1);
        x.plan(0, 2);
        Check.due(60.0, "not those that are planned", () -> x.meanMinutes());
        x.begin();
        Check.due(60.0, "not the one that is on", () -> x.meanMinutes());
        x.end();
        Check.due(30.0, "two", () -> x.meanMinutes());
        x.pass(2);
        Check.due(30.0, "not the one that did not begin", () -> x.meanMinutes());
    }

    @Says(promise = 35, value = "Throws `ArithmeticException` if there are none")
    static void promise35ThrowsIfThereAreNone() {
        Twin.refused(Check.ARITHMETIC, "a new house", Houses.NEW, x -> x.meanMinutes());
        Twin.refused(Check.ARITHMETIC, "planned", Houses.RICH, x -> x.meanMinutes());
        Twin.refused(Check.ARITHMETIC, "on", Houses.RICH_ON, x -> x.meanMinutes());
        Twin.refused(Check.ARITHMETIC, "did not begin", () -> {
            Theatrehouse x = Houses.rich();
            x.pass(4);
            return x;
        }, x -> x.meanMinutes());
    }

    // ---- Promise 36: isConsistent.

    @Says(promise = 36, value = {"Checks the invariants", "Returns true if the invariants hold"})
    static void promise36ChecksTheInvariants() {
        Twin.House[] houses = {Houses.NEW, Houses.RICH, Houses.RICH_ON, Houses.FULL, Houses.FULL_ON,
            Houses::onWithoutCues, () -> dayBehind()};
        for (Twin.House house : houses) {
            Twin.due(true, "holds", house, x -> x.isConsistent());
        }
        for (int count = 0; count <= 9; count++) {
            Theatrehouse x = Houses.withFreeCues(count);
            x.begin();
            for (int cue = 0; cue < count; cue++) {
                Check.due(true, count - cue + " free cues are left", () -> x.isConsistent());
                x.perform(cue);
            }
            Check.due(true, "none is left of " + count, () -> x.isConsistent());
        }
    }

    @Says(promise = 36, value = "voices are from 0 to the greatest ones")
    static void promise36VoicesAreFrom0ToTheGreatestOnes() throws ReflectiveOperationException {
        Theatrehouse x = EveningTest.singing(30, 30);
        Houses.perform(x, 0, 1, 2);
        Check.due(true, "a voice of 0", () -> x.isConsistent());
        x.takeBack();
        Check.due(true, "the greatest voice", () -> x.isConsistent());
        for (int person = 0; person < 10; person++) {
            for (int voice : new int[] {MIN, -1, 0, 1, 19 + person, 20 + person, 21 + person, MAX}) {
                Theatrehouse broken = Houses.withPeople(10);
                BooksTest.setVoice(broken, person, voice);
                Check.due(voice >= 0 && voice <= 20 + person, "the voice " + voice + " of " + (20 + person),
                    () -> broken.isConsistent());
            }
        }
    }

    @Says(promise = 36, value = {"and, if an evening is on with at most 5 cues left",
        "trying all rows, one by one, finds as many orders as are told, the same first one",
        "and the same longest length"})
    static void promise36TriesAllRowsOfAtMost5Cues() {
        for (int left = 2; left <= 8; left++) {
            int cues = left;
            for (String broken : new String[] {"rowLength", "leftCount", "orderCounts", "row"}) {
                Check.due(left > 5, left + " free cues left, told wrong: " + broken,
                    () -> BooksTest.isConsistentWith(broken, cues, false));
                Check.due(left > 5, left + " cues left in one order, told wrong: " + broken,
                    () -> BooksTest.isConsistentWith(broken, cues, true));
            }
        }
        Theatrehouse stuck = OrdersSentencesTest.staged(0, 0, "x0,0,0 e0,0,0 m0,1,0 l0,1,0 l0,1,0 c0,0,0");
        stuck.begin();
        Check.due(true, "no order, six cues left", () -> stuck.isConsistent());
        for (int cue = 5; cue >= 3; cue--) {
            int left = cue;
            stuck.perform(cue == 4 ? 1 : cue);
            Check.due(false, "no order", () -> stuck.hasOrder());
            Check.due(true, "no order, cues left: " + left, () -> stuck.isConsistent());
        }
        stuck.takeBack();
        Check.due(true, "one less", () -> stuck.isConsistent());
        Theatrehouse over = Houses.withFreeCues(3);
        over.begin();
        over.end();
        Check.due(true, "no evening is on", () -> over.isConsistent());
    }
}
