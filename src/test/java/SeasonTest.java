/** Promises 11 to 15. */
public final class SeasonTest {
    public static void main(String[] args) {
        plan();
        sell();
        sellWhileOn();
        pass();
        passCallsOff();
        day();
        begin();
        beginAnew();
        Check.finish("SeasonTest");
    }

    private static void plan() {
        Theatrehouse x = Houses.withPeople(1);
        x.addWork(1, 1);
        x.addWork(1, 1);
        Check.due(1, "today", () -> x.plan(0, 0));
        Check.due(2, "the last day", () -> x.plan(1, 99));
        Check.due(3, "tomorrow", () -> x.plan(1, 1));
        Check.due(Check.UNSUPPORTED, "twice on a day", () -> x.plan(1, 0));
        Check.due(Check.ARGUMENT, "behind the last day", () -> x.plan(0, 100));
        Check.due(Check.ARGUMENT, "ahead of the first day", () -> x.plan(0, -1));
        Check.due(Check.INDEX, "no such work, day out of range", () -> x.plan(2, 100));
        Check.due(Check.INDEX, "work below, day taken", () -> x.plan(-1, 0));
        x.begin();
        Check.due(4, "the one that is on counts", () -> x.plan(0, 2));
        Check.due(Check.UNSUPPORTED, "the day of the one that is on", () -> x.plan(0, 0));
        x.end();
        Check.due(Check.UNSUPPORTED, "the day of one that is over", () -> x.plan(0, 0));
        Check.due(4, "the one that is over counts no more", () -> x.plan(0, 3));
        x.pass(2);
        Check.due(Check.ARGUMENT, "yesterday", () -> x.plan(0, 1));
        Check.due(4, "those that did not begin count no more", () -> x.plan(0, 4));
    }

    private static void sell() {
        Theatrehouse x = Houses.withPeople(1);
        x.addWork(1, 7);
        x.addWork(1, 5);
        x.plan(0, 3);
        x.plan(1, 4);
        Check.due(Check.ARGUMENT, "none", () -> x.sell(3, 0));
        Check.due(Check.ARGUMENT, "none for no evening", () -> x.sell(2, 0));
        Check.due(Check.ELEMENT, "no evening", () -> x.sell(2, 31));
        Check.due(Check.ELEMENT, "day below", () -> x.sell(-1, 1));
        Check.due(Check.ELEMENT, "day above", () -> x.sell(100, 1));
        Check.due(Check.ELEMENT, "day far above", () -> x.sell(Integer.MAX_VALUE, 1));
        Check.due(10, "ten", () -> x.sell(3, 10));
        Check.due(2, "of the other work", () -> x.sell(4, 2));
        Check.due(70, "the price of each", () -> x.balance(0));
        Check.due(10, "the price of each of the other work", () -> x.balance(1));
        Check.due(6, "given back", () -> x.sell(3, -4));
        Check.due(42, "the price comes back", () -> x.balance(0));
        Check.due(Check.UNSUPPORTED, "too many", () -> x.sell(3, 25));
        Check.due(Check.UNSUPPORTED, "far too many", () -> x.sell(3, Integer.MAX_VALUE));
        Check.due(Check.UNSUPPORTED, "more than were sold", () -> x.sell(3, -7));
        Check.due(Check.UNSUPPORTED, "far more than were sold", () -> x.sell(3, Integer.MIN_VALUE));
        Check.due(30, "all", () -> x.sell(3, 24));
        Check.due(0, "all given back", () -> x.sell(3, -30));
        Check.due(0, "the balance then", () -> x.balance(0));
        x.plan(0, 99);
        Check.due(1, "for the last day", () -> x.sell(99, 1));
        Check.due((float) 3 / (float) 90, "the last day counts", () -> x.soldShare());
    }

    private static void sellWhileOn() {
        Theatrehouse x = Houses.withPeople(1);
        x.addWork(1, 7);
        x.plan(0, 0);
        x.plan(0, 1);
        x.sell(0, 3);
        x.sell(1, 3);
        x.begin();
        Check.due(4, "one while it is on", () -> x.sell(0, 1));
        Check.due(5, "another one while it is on", () -> x.sell(0, 1));
        Check.due(Check.ELEMENT, "given back while it is on", () -> x.sell(0, -1));
        Check.due(Check.ELEMENT, "more than sold given back while it is on", () -> x.sell(0, -9));
        Check.due(Check.UNSUPPORTED, "too many while it is on", () -> x.sell(0, 26));
        Check.due(2, "given back for another day", () -> x.sell(1, -1));
        Check.due(49, "the balance", () -> x.balance(0));
        x.end();
        Check.due(Check.ELEMENT, "over", () -> x.sell(0, 1));
        Check.due(Check.ELEMENT, "given back when over", () -> x.sell(0, -1));
        Check.due(Check.ELEMENT, "far too many when over", () -> x.sell(0, 31));
        Check.due(49, "the balance stays", () -> x.balance(0));
    }

    private static void pass() {
        Theatrehouse x = Houses.withPeople(1);
        Check.due(Check.ARGUMENT, "no days", () -> x.pass(0));
        Check.due(Check.ARGUMENT, "days below", () -> x.pass(-1));
        Check.due(Check.ARGUMENT, "days above", () -> x.pass(31));
        Check.due(Check.ARGUMENT, "days far above", () -> x.pass(Integer.MAX_VALUE));
        Check.due(30, "the most days", () -> x.pass(30));
        Check.due(60, "again", () -> x.pass(30));
        Check.due(90, "and again", () -> x.pass(30));
        Check.due(Check.ARGUMENT, "beyond the last day", () -> x.pass(10));
        Check.due(98, "up to the day ahead of the last one", () -> x.pass(8));
        x.addWork(1, 1);
        Houses.open(x);
        Check.due(Check.STATE, "while an evening is on", () -> x.pass(1));
        Check.due(Check.ARGUMENT, "out of range while an evening is on", () -> x.pass(2));
        x.end();
        Check.due(99, "the last day", () -> x.pass(1));
        Check.due(Check.ARGUMENT, "no day is left", () -> x.pass(1));

        Theatrehouse sung = EveningTest.singing(20, 20);
        Houses.perform(sung, 0, 1, 2);
        Check.due(0, "voice sung out", () -> sung.voice(0));
        sung.end();
        sung.pass(1);
        Check.due(3, "3 greater a day", () -> sung.voice(0));
        sung.pass(4);
        Check.due(15, "12 greater in four", () -> sung.voice(0));
        sung.pass(1);
        Check.due(18, "18 then", () -> sung.voice(0));
        sung.pass(1);
        Check.due(20, "at most the greatest one", () -> sung.voice(0));
    }

    private static void passCallsOff() {
        Theatrehouse x = Houses.withPeople(1);
        x.addWork(1, 10);
        x.plan(0, 0);
        x.plan(0, 2);
        x.plan(0, 3);
        x.sell(0, 1);
        x.sell(2, 2);
        x.sell(3, 4);
        x.begin();
        x.end();
        x.pass(3);
        Check.due(50, "tickets of the one that did not begin are given back", () -> x.balance(0));
        Check.due(Check.ELEMENT, "it is over", () -> x.sell(2, 1));
        Check.due(5, "today's is not over", () -> x.sell(3, 1));
        Check.due(1, "one has ended", () -> x.evenings());
        Check.due(0, "today's can begin", () -> x.begin());
        x.end();
        Check.due((float) 6 / (float) 60, "those that did not begin do not count", () -> x.soldShare());
    }

    private static void day() {
        Theatrehouse x = Houses.withPeople(1);
        Check.due(0, "the first day", () -> x.day());
        x.pass(7);
        Check.due(7, "a week on", () -> x.day());
        Check.due(Check.ARGUMENT, "refused", () -> x.pass(31));
        Check.due(7, "a refusal changes nothing", () -> x.day());
    }

    private static void begin() {
        Theatrehouse x = Houses.withPeople(1);
        x.addWork(1, 1);
        x.addWork(1, 1);
        x.addCue(1, 'c', 0, 0, 1, 0);
        Check.due(Check.ELEMENT, "none is planned", () -> x.begin());
        x.plan(1, 1);
        Check.due(Check.ELEMENT, "none is planned for today", () -> x.begin());
        x.plan(0, 0);
        Check.due(0, "no cues", () -> x.begin());
        Check.due(Check.STATE, "while it is on", () -> x.begin());
        x.end();
        Check.due(Check.ELEMENT, "it is over", () -> x.begin());
        x.addCue(1, 'c', 0, 0, 1, 0);
        x.pass(1);
        Check.due(2, "two cues, one added later", () -> x.begin());
    }

    private static void beginAnew() {
        Theatrehouse x = Houses.withPeople(2);
        x.addMachine(0, 9);
        x.addWork(1, 1);
        x.addCue(0, 'm', 0, 5, 10, 0);
        x.addCue(0, 'l', 0, 2, 10, 0);
        x.addCue(0, 'e', 0, 3, 10, 0);
        for (int i = 0; i < 2; i++) {
            Houses.open(x);
            Check.due(0, "machines are at the place 0", () -> x.place(0));
            Check.due(-1, "nobody is on the stage", () -> x.zone(0));
            Check.due(0, "no minutes", () -> x.minutes());
            Check.due('-', "lights are 0", () -> x.obstacle(1));
            Check.due('-', "nothing was done", () -> x.obstacle(0));
            Check.due(Check.ELEMENT, "nothing to take back", () -> x.takeBack());
            Check.due(8, "states", () -> x.states());
            Houses.perform(x, 0, 1, 2);
            Check.due(30, "minutes", () -> x.minutes());
            x.end();
            x.pass(1);
        }
    }
}
