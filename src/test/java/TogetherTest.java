/** Sentences that speak of each other, held together through whole evenings; the answers due are worked out by hand. */
public final class TogetherTest {
    public static void main(String[] args) {
        illAndCovered();
        illWhileAnEveningIsOn();
        onePersonSingsTwoRoles();
        voicesComeBack();
        voicesOfTheNextEvening();
        toldClear();
        toldClearAndTakenBack();
        interlockZoneAndLimit();
        missedAndOver();
        ticketsGivenBack();
        whatStaysDone();
        nothingStaysOnTheStage();
        ordersFromWhereItIs();
        ordersAndTheVoicesLeft();
        Check.finish("TogetherTest");
    }

    /** The roles 0 and 1 of the persons 0 and 1; 0 is covered by 1, and 1 by 2. Evenings on the days 0 to 4. */
    private static Theatrehouse chain() {
        Theatrehouse x = Houses.withRoles(3);
        x.setCover(0, 1);
        x.setCover(1, 2);
        x.addCue(0, 'c', 0, 0, 1, 0);
        x.addCue(0, 'e', 0, 1, 1, 1);
        for (int day = 0; day < 5; day++) {
            x.plan(0, day);
        }
        return x;
    }

    private static void nextDay(Theatrehouse x) {
        x.end();
        x.pass(1);
        x.begin();
    }

    private static void illAndCovered() {
        Theatrehouse x = chain();
        Check.due(1, "0 is ill up to the day 1", () -> x.fallIll(0, 2));
        x.begin();
        Check.due(1, "the cover of 0", () -> x.singer(0));
        Check.due(1, "1 has a role too", () -> x.singer(1));
        Check.due(2, "2 is well", () -> x.singer(2));
        Check.due(2, "1 is ill up to the day 2", () -> x.fallIll(1, 3));
        nextDay(x);
        Check.due(Check.ELEMENT, "a cover that is ill has no cover", () -> x.singer(0));
        Check.due(2, "the cover of 1", () -> x.singer(1));
        Check.due('n', "a cue is missing ahead of a role without singer", () -> x.obstacle(1));
        x.perform(0);
        Check.due('r', "the role has no singer", () -> x.obstacle(1));
        Check.due(Check.UNSUPPORTED, "no cue of it", () -> x.perform(1));
        nextDay(x);
        Check.due(0, "0 is well on the day 2", () -> x.singer(0));
        Check.due(2, "1 is ill on the day 2", () -> x.singer(1));
        nextDay(x);
        Check.due(1, "1 is well on the day 3", () -> x.singer(1));
        x.end();
        Check.due(3, "0 is ill today", () -> x.fallIll(0, 1));
        Check.due(3, "1 is ill today", () -> x.fallIll(1, 1));
        x.pass(1);
        x.begin();
        Check.due(0, "illness of yesterday: 0", () -> x.singer(0));
        Check.due(1, "illness of yesterday: 1", () -> x.singer(1));
    }

    private static void illWhileAnEveningIsOn() {
        Theatrehouse x = chain();
        x.fallIll(0, 5);
        x.begin();
        Check.due(-1, "0 is well again", () -> x.fallIll(0, 0));
        Check.due(4, "1 falls ill", () -> x.fallIll(1, 5));
        Check.due(Check.STATE, "no cover is set meanwhile", () -> x.setCover(0, 2));
        Check.due(1, "the cover sings on", () -> x.singer(0));
        Check.due(1, "who fell ill sings on", () -> x.singer(1));
        x.perform(0);
        Check.due(2, "the cover enters, ill by now", () -> x.perform(1));
        Check.due(1, "the cover is on the stage", () -> x.zone(1));
        Check.due(-1, "the role's person is not", () -> x.zone(0));
        nextDay(x);
        Check.due(0, "0 on the next day", () -> x.singer(0));
        Check.due(2, "the cover of 1 on the next day", () -> x.singer(1));
        x.end();
        Check.due(1, "the cover before", () -> x.setCover(0, -1));
        x.fallIll(0, 2);
        x.pass(1);
        x.begin();
        Check.due(Check.ELEMENT, "ill and without a cover", () -> x.singer(0));
    }

    /** Of the roles 0 and 1 the person 1, who covers 0, sings both. */
    private static void onePersonSingsTwoRoles() {
        Theatrehouse x = new Theatrehouse();
        x.addPerson(50, 30);
        x.addPerson(2, 20);
        x.addMachine(1, 1);
        x.setCover(0, 1);
        x.addWork(2, 9);
        x.setRole(0, 1, 1);
        x.addCue(0, 'e', 0, 1, 60, 0);
        x.addCue(0, 'e', 1, 1, 60, 0);
        x.addCue(0, 'l', 1, 1, 1, 0);
        x.addCue(0, 's', 0, 12, 1, 0);
        x.addCue(0, 's', 1, 9, 1, 0);
        x.addCue(0, 's', 1, 8, 1, 0);
        x.addCue(0, 'c', 1, 0, 1, 0);
        x.addCue(0, 'm', 0, 1, 1, 0);
        x.addCue(0, 'x', 1, 0, 60, 0);
        x.fallIll(0, 1);
        Houses.open(x);
        Houses.perform(x, 0, 2);
        Check.due('p', "is on the stage in the other role", () -> x.obstacle(1));
        Check.due('u', "one, not told clear", () -> x.obstacle(7));
        Houses.perform(x, 6, 7);
        Check.due(64, "the song of the role 0", () -> x.perform(3));
        Check.due(8, "one voice for both roles", () -> x.voice(1));
        Check.due('v', "too little is left for the role 1", () -> x.obstacle(4));
        Check.due(65, "just enough for it", () -> x.perform(5));
        Check.due(-40, "the fee of the one who sings", () -> x.balance(0));
        Check.due(125, "leaves in the role 1", () -> x.perform(8));
        Check.due(-1, "is off the stage", () -> x.zone(1));
        Check.due(185, "enters in the role 1", () -> x.perform(1));
        x.end();
        Check.due(-75, "paid once for 65 minutes", () -> x.balance(0));
        Check.due(20, "the voice of both roles", () -> x.sung(1));
        Check.due(0, "the ill one sang nothing", () -> x.sung(0));
    }

    private static Theatrehouse songs() {
        Theatrehouse x = new Theatrehouse();
        x.addPerson(3, 12);
        x.addWork(1, 5);
        x.addCue(0, 'e', 0, 0, 10, 0);
        x.addCue(0, 'l', 0, 2, 10, 0);
        x.addCue(0, 's', 0, 10, 10, 3);
        x.addCue(0, 's', 0, 2, 10, 3);
        x.plan(0, 0);
        x.plan(0, 1);
        x.plan(0, 3);
        x.begin();
        return x;
    }

    private static void voicesComeBack() {
        Theatrehouse x = songs();
        Houses.perform(x, 0, 1, 2, 3);
        Check.due(0, "both songs", () -> x.voice(0));
        Check.due(-36, "both are paid", () -> x.balance(0));
        Check.due(3, "the last one back", () -> x.takeBack());
        Check.due(2, "its voice is back", () -> x.voice(0));
        Check.due(-30, "its pay is back", () -> x.balance(0));
        Check.due(10, "no more sung", () -> x.sung(0));
        Check.due(30, "its minutes are back", () -> x.minutes());
        Check.due(Check.STATE, "no day goes by", () -> x.pass(1));
        Check.due(2, "nor does the voice become greater", () -> x.voice(0));
        Check.due(2, "the other one back", () -> x.takeBack());
        Check.due(12, "all the voice", () -> x.voice(0));
        Check.due(0, "nothing paid", () -> x.balance(0));
        Check.due('-', "it can be done anew", () -> x.obstacle(2));
        Check.due(30, "in the other order", () -> x.perform(3));
        Check.due(40, "with what is left", () -> x.perform(2));
        Check.due(0, "all is sung", () -> x.voice(0));
    }

    private static void voicesOfTheNextEvening() {
        Theatrehouse x = songs();
        Houses.perform(x, 0, 1, 2);
        x.end();
        Check.due(2, "no voice comes back by an end", () -> x.voice(0));
        x.pass(1);
        Check.due(5, "3 by a day", () -> x.voice(0));
        x.begin();
        Check.due(5, "nor by a begin", () -> x.voice(0));
        Houses.perform(x, 0, 1);
        Check.due('v', "5 is less than 10", () -> x.obstacle(2));
        Check.due(false, "so there is no order", () -> x.hasOrder());
        Check.due(2, "which is stuck", () -> x.stuck());
        x.perform(3);
        x.takeBack();
        Check.due(5, "back to what it was when it began", () -> x.voice(0));
        x.end();
        x.pass(2);
        Check.due(11, "6 by two days", () -> x.voice(0));
        x.begin();
        Houses.perform(x, 0, 1, 2);
        Check.due('v', "1 is less than 2", () -> x.obstacle(3));
        x.end();
        x.pass(30);
        Check.due(12, "at most the greatest one", () -> x.voice(0));
        Check.due(20, "sung in all", () -> x.sung(0));
        Check.due(-60, "paid in all", () -> x.balance(0));
    }

    /** The persons 0 and 1 in the zones 0 and 1, a machine over each of the two. */
    private static Theatrehouse stage() {
        Theatrehouse x = Houses.withRoles(2);
        x.addMachine(0, 2);
        x.addMachine(1, 2);
        x.addCue(0, 'e', 0, 0, 1, 0);
        x.addCue(0, 'e', 1, 1, 1, 0);
        x.addCue(0, 'c', 0, 0, 1, 0);
        x.addCue(0, 'm', 0, 1, 1, 0);
        x.addCue(0, 'm', 0, 2, 1, 0);
        x.addCue(0, 'm', 1, 1, 1, 0);
        x.addCue(0, 'g', 1, 0, 1, 0);
        x.addCue(0, 'c', 0, 0, 1, 0);
        x.addCue(0, 'c', 1, 0, 1, 0);
        Houses.open(x);
        return x;
    }

    private static void toldClear() {
        Theatrehouse x = stage();
        Houses.perform(x, 0, 1, 2);
        Check.due('-', "all in the zone 0 were told", () -> x.obstacle(3));
        Check.due('u', "nobody in the zone 1 was", () -> x.obstacle(5));
        x.perform(8);
        Check.due('-', "now all there were", () -> x.obstacle(5));
        x.perform(6);
        Check.due('u', "who came from there is not told any more", () -> x.obstacle(3));
        Check.due('-', "the zone 1 is empty", () -> x.obstacle(5));
        x.perform(7);
        Check.due('-', "both were told", () -> x.obstacle(4));
        x.perform(5);
        Check.due('-', "the machine of the other zone leaves them told", () -> x.obstacle(3));
        x.perform(3);
        Check.due('u', "not told any more when it has moved", () -> x.obstacle(4));
        Check.due(1, "the place", () -> x.place(0));
    }

    private static void toldClearAndTakenBack() {
        Theatrehouse x = stage();
        Houses.perform(x, 0, 2, 3);
        Check.due('u', "moved, not told", () -> x.obstacle(4));
        Check.due(3, "the move back", () -> x.takeBack());
        Check.due('-', "told as ahead of it", () -> x.obstacle(4));
        Check.due(0, "the place as ahead of it", () -> x.place(0));
        Check.due(2, "the telling back", () -> x.takeBack());
        Check.due('u', "not told", () -> x.obstacle(4));
        Houses.perform(x, 2, 1, 6);
        Check.due('u', "one of two", () -> x.obstacle(3));
        Check.due(6, "the one who came back", () -> x.takeBack());
        Check.due(1, "to where it was", () -> x.zone(1));
        Check.due('-', "all who are left were told", () -> x.obstacle(3));
        Check.due(1, "the entrance back", () -> x.takeBack());
        Check.due(-1, "off the stage", () -> x.zone(1));
    }

    private static void interlockZoneAndLimit() {
        Theatrehouse x = Houses.withRoles(2);
        x.addMachine(0, 1);
        x.addMachine(3, 0);
        x.setInterlock(0, 1, 2, 3);
        x.addCue(0, 'e', 0, 0, 1, 0);
        x.addCue(0, 'e', 1, 0, 1, 0);
        x.addCue(0, 'm', 0, 0, 1, 0);
        x.addCue(0, 'm', 1, 2, 1, 0);
        x.addCue(0, 'c', 0, 0, 1, 0);
        x.addCue(0, 'x', 1, 0, 1, 0);
        x.addCue(0, 'm', 0, 5, 1, 0);
        x.addCue(0, 'm', 1, 4, 1, 0);
        Houses.open(x);
        Houses.perform(x, 0, 1);
        Check.due('i', "the interlock ahead of all else", () -> x.obstacle(2));
        x.perform(3);
        Check.due('u', "who was not told ahead of the limit", () -> x.obstacle(2));
        x.perform(4);
        Check.due('o', "two are more than one", () -> x.obstacle(2));
        Check.due('o', "two are more than one, for another place too", () -> x.obstacle(6));
        x.perform(5);
        Check.due('s', "it is there already", () -> x.obstacle(2));
        Check.due('-', "to another place", () -> x.obstacle(6));
        x.perform(7);
        Check.due('i', "the other machine went too far", () -> x.obstacle(6));
        Check.due(4, "its place", () -> x.place(1));
        x.takeBack();
        Check.due('-', "and came back", () -> x.obstacle(6));
    }

    private static void missedAndOver() {
        Theatrehouse x = Houses.withRoles(1);
        x.plan(0, 0);
        x.plan(0, 1);
        x.plan(0, 2);
        Check.due(4, "four are planned", () -> x.plan(0, 3));
        x.begin();
        x.end();
        Check.due(Check.ELEMENT, "today's is over", () -> x.begin());
        Check.due(Check.UNSUPPORTED, "nor is another one planned today", () -> x.plan(0, 0));
        x.sell(1, 30);
        x.sell(2, 15);
        Check.due(0.375f, "45 of 120", () -> x.soldShare());
        x.pass(2);
        Check.due(15.0f / 90.0f, "the missed one counts no more, the ended one does", () -> x.soldShare());
        Check.due(Check.ELEMENT, "no tickets for the missed one", () -> x.sell(1, 1));
        Check.due(Check.ELEMENT, "no tickets for the ended one", () -> x.sell(0, 1));
        Check.due(Check.ARGUMENT, "a day that has gone by", () -> x.plan(0, 1));
        x.begin();
        Check.due(15.0f / 90.0f, "the one that is on counts", () -> x.soldShare());
        Check.due(3, "the one that is on, one planned, and this", () -> x.plan(0, 9));
        Check.due(1, "one has ended", () -> x.evenings());
        x.end();
        Check.due(2, "two have ended", () -> x.evenings());
        x.pass(30);
        Check.due(0.25f, "those that ended", () -> x.soldShare());
        Check.due(1, "all others are over", () -> x.plan(0, 99));
        Check.due(2, "the missed ones never ended", () -> x.evenings());
    }

    private static void ticketsGivenBack() {
        Theatrehouse x = Houses.withPeople(1);
        x.addWork(1, 10);
        x.addWork(1, 7);
        x.plan(0, 0);
        x.plan(1, 1);
        x.plan(0, 2);
        x.sell(0, 20);
        x.sell(1, 10);
        x.sell(2, 3);
        Check.due(18, "two given back ahead of the evening", () -> x.sell(0, -2));
        Check.due(210, "18 and 3 of the one work", () -> x.balance(0));
        Check.due(70, "10 of the other", () -> x.balance(1));
        x.begin();
        Check.due(Check.ELEMENT, "none given back when it is on", () -> x.sell(0, -1));
        Check.due(30, "12 sold when it is on", () -> x.sell(0, 12));
        Check.due(Check.UNSUPPORTED, "one above all", () -> x.sell(0, 1));
        Check.due(8, "those of another day are given back", () -> x.sell(1, -2));
        x.end();
        Check.due(Check.ELEMENT, "none given back when it is over", () -> x.sell(0, -1));
        x.pass(2);
        Check.due(330, "the missed one was of the other work", () -> x.balance(0));
        Check.due(0, "its tickets are given back", () -> x.balance(1));
        x.pass(1);
        Check.due(300, "what was sold for the ended one stays", () -> x.balance(0));
        Check.due(1.0f, "all of its tickets", () -> x.soldShare());
    }

    private static void whatStaysDone() {
        Theatrehouse x = songs();
        Houses.perform(x, 0, 1, 3);
        Check.due(1, "one cue was not done", () -> x.end());
        Check.due(-6, "the song stays paid", () -> x.balance(0));
        Check.due(2, "and sung", () -> x.sung(0));
        Check.due(Check.STATE, "nothing is taken back behind the end", () -> x.takeBack());
        x.pass(1);
        x.begin();
        Check.due(Check.ELEMENT, "nor in the next evening", () -> x.takeBack());
        Check.due('-', "where the cues are not done", () -> x.obstacle(0));
        Check.due('n', "and must be done ahead anew", () -> x.obstacle(3));
        Check.due(0, "its minutes", () -> x.minutes());
        Houses.perform(x, 0, 1, 2);
        x.takeBack();
        Check.due(2, "two of four left", () -> x.end());
        Check.due(2, "what was taken back is not sung", () -> x.sung(0));
        Check.due(-6, "nor paid", () -> x.balance(0));
        Check.due(25.0, "30 and 20 minutes", () -> x.meanMinutes());
    }

    private static void nothingStaysOnTheStage() {
        Theatrehouse x = stage();
        x.plan(0, 1);
        Houses.perform(x, 0, 2, 3, 1, 7);
        Check.due(1, "a place in the evening", () -> x.place(0));
        x.end();
        Check.due(0, "a place without an evening", () -> x.place(0));
        Check.due(Check.STATE, "no zone without an evening", () -> x.zone(0));
        x.pass(1);
        x.begin();
        Check.due(0, "the place at first", () -> x.place(0));
        Check.due(-1, "nobody is on the stage", () -> x.zone(0));
        Check.due('-', "an empty zone", () -> x.obstacle(3));
        x.perform(0);
        Check.due('u', "nobody was told clear", () -> x.obstacle(3));
    }

    /** 0 enters, 1 moves the machine over the zone, which must come first, 2 and 3 are lights of the zone 0. */
    private static void ordersFromWhereItIs() {
        Theatrehouse x = Houses.withRoles(1);
        x.addMachine(0, 9);
        x.addCue(0, 'e', 0, 0, 1, 0);
        x.addCue(0, 'm', 0, 1, 1, 0);
        x.addCue(0, 'l', 0, 1, 1, 0);
        x.addCue(0, 'l', 0, 2, 1, 0);
        Houses.open(x);
        Check.due(12L, "0 behind 1, half of 24", () -> x.orders());
        Check.due(1, "the first one begins with 1", () -> x.orderAt(0));
        Check.due(0, "goes on with 0", () -> x.orderAt(1));
        x.perform(3);
        Check.due(3L, "0, 1 and 2 are left", () -> x.orders());
        Check.due(3, "three cues are left", () -> x.farthest());
        Check.due(Check.ELEMENT, "so no fourth one", () -> x.orderAt(3));
        Check.due(8, "0 and not 1 too, each with 2 and without", () -> x.states());
        x.perform(0);
        Check.due(0L, "the machine is stuck", () -> x.orders());
        Check.due(1, "only 2 can be done", () -> x.farthest());
        Check.due(1, "it is stuck", () -> x.stuck());
        Check.due(2, "with 2 and without", () -> x.states());
        Check.due(true, "trying all rows finds the same", () -> x.isConsistent());
        x.takeBack();
        Check.due(3L, "as ahead of it", () -> x.orders());
        x.takeBack();
        Check.due(12L, "as at first", () -> x.orders());
        Houses.perform(x, 1, 0, 2, 3);
        Check.due(1L, "the row without cues", () -> x.orders());
        Check.due(1, "the present state", () -> x.states());
    }

    /** A voice of 10 for songs of 6, 4 and 3: the longest row has two of them, the first one of these 0, 1, 2, 3. */
    private static void ordersAndTheVoicesLeft() {
        Theatrehouse x = new Theatrehouse();
        x.addPerson(1, 10);
        x.addWork(1, 1);
        x.addCue(0, 'e', 0, 0, 1, 0);
        x.addCue(0, 'l', 0, 1, 1, 0);
        x.addCue(0, 's', 0, 6, 1, 3);
        x.addCue(0, 's', 0, 4, 1, 3);
        x.addCue(0, 's', 0, 3, 1, 3);
        x.plan(0, 0);
        x.plan(0, 1);
        x.begin();
        Check.due(4, "two of three songs", () -> x.farthest());
        Check.due(4, "the last one is left", () -> x.stuck());
        Check.due(10, "4 ahead of the songs, 3 with one, 3 with two", () -> x.states());
        Houses.perform(x, 0, 1, 4);
        Check.due(1, "6 or 4 behind 3", () -> x.farthest());
        Check.due(3, "6 comes first, so 4 is left", () -> x.stuck());
        x.end();
        x.pass(1);
        x.begin();
        Houses.perform(x, 0, 1, 2);
        Check.due(4, "10 again at most, 6 less", () -> x.voice(0));
        Check.due(3, "the states from here", () -> x.states());
        x.perform(3);
        Check.due(0, "nothing can be done", () -> x.farthest());
        Check.due(4, "the song that is left", () -> x.stuck());
        Check.due(true, "trying all rows finds the same", () -> x.isConsistent());
    }
}
