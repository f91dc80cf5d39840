/** Promises 1 to 6. */
public final class PeopleAndMachinesTest {
    public static void main(String[] args) {
        newObject();
        addPerson();
        setCover();
        fallIll();
        addMachine();
        setInterlock();
        Check.finish("PeopleAndMachinesTest");
    }

    private static void newObject() {
        Theatrehouse x = new Theatrehouse();
        Check.due(0, "day of a new house", () -> x.day());
        Check.due(0, "evenings of a new house", () -> x.evenings());
        Check.due(Check.INDEX, "no person", () -> x.voice(0));
        Check.due(Check.INDEX, "no machine", () -> x.place(0));
        Check.due(Check.INDEX, "no work", () -> x.cues(0));
        Check.due(Check.STATE, "no evening is on", () -> x.minutes());
        Check.due(Check.ELEMENT, "no evening is planned", () -> x.begin());
        Check.due(true, "a new house is consistent", () -> x.isConsistent());
        x.addPerson(1, 1);
        Check.due(Check.INDEX, "houses are apart", () -> new Theatrehouse().voice(0));
    }

    private static void addPerson() {
        Theatrehouse x = new Theatrehouse();
        Check.due(Check.ARGUMENT, "fee below", () -> x.addPerson(-1, 5));
        Check.due(Check.ARGUMENT, "fee above", () -> x.addPerson(100, 5));
        Check.due(Check.ARGUMENT, "voice below", () -> x.addPerson(5, 0));
        Check.due(Check.ARGUMENT, "voice above", () -> x.addPerson(5, 31));
        Check.due(0, "least numbers", () -> x.addPerson(0, 1));
        Check.due(1, "greatest numbers", () -> x.addPerson(99, 30));
        Check.due(1, "voice is the greatest one at first", () -> x.voice(0));
        Check.due(30, "voice of the second", () -> x.voice(1));
        Check.due(0, "has not sung", () -> x.sung(1));
        for (int i = 2; i < 10; i++) {
            int number = i;
            Check.due(number, "person " + i, () -> x.addPerson(7, 7));
        }
        Check.due(Check.STATE, "an eleventh", () -> x.addPerson(7, 7));
        Check.due(Check.ARGUMENT, "an eleventh out of range", () -> x.addPerson(7, 31));
        Check.due(Check.INDEX, "was not added", () -> x.voice(10));

        Theatrehouse on = Houses.onWithoutCues();
        Check.due(Check.STATE, "while an evening is on", () -> on.addPerson(7, 7));
        Check.due(Check.ARGUMENT, "out of range while an evening is on", () -> on.addPerson(-1, 7));
        on.end();
        Check.due(1, "behind the evening", () -> on.addPerson(7, 7));
    }

    private static void setCover() {
        Theatrehouse x = Houses.withPeople(3);
        Check.due(-1, "first cover", () -> x.setCover(0, 1));
        Check.due(1, "second cover", () -> x.setCover(0, 2));
        Check.due(2, "no cover", () -> x.setCover(0, -1));
        Check.due(-1, "a cover again", () -> x.setCover(0, 2));
        Check.due(-1, "covers are apart", () -> x.setCover(2, 0));
        Check.due(Check.INDEX, "oneself", () -> x.setCover(1, 1));
        Check.due(Check.INDEX, "no such person", () -> x.setCover(3, 1));
        Check.due(Check.INDEX, "person below", () -> x.setCover(-1, 1));
        Check.due(Check.INDEX, "none for none", () -> x.setCover(-1, -1));
        Check.due(Check.INDEX, "no such cover", () -> x.setCover(1, 3));
        Check.due(Check.INDEX, "cover below", () -> x.setCover(1, -2));
        Check.due(2, "refusals changed nothing", () -> x.setCover(0, -1));
        x.addWork(1, 1);
        x.plan(0, 0);
        x.begin();
        Check.due(Check.STATE, "while an evening is on", () -> x.setCover(0, 1));
        Check.due(Check.INDEX, "oneself while an evening is on", () -> x.setCover(1, 1));
        x.end();
        Check.due(-1, "the refusal changed nothing", () -> x.setCover(0, 1));
    }

    private static void fallIll() {
        Theatrehouse x = Houses.withPeople(2);
        Check.due(Check.INDEX, "no such person", () -> x.fallIll(2, 1));
        Check.due(Check.INDEX, "person below, days out of range", () -> x.fallIll(-1, 31));
        Check.due(Check.ARGUMENT, "days below", () -> x.fallIll(0, -1));
        Check.due(Check.ARGUMENT, "days above", () -> x.fallIll(0, 31));
        Check.due(0, "today alone", () -> x.fallIll(0, 1));
        Check.due(29, "the most days", () -> x.fallIll(0, 30));
        Check.due(-1, "well again", () -> x.fallIll(0, 0));
        x.pass(4);
        Check.due(6, "from today on", () -> x.fallIll(0, 3));
        Check.due(4, "shorter than before", () -> x.fallIll(0, 1));
        x.addWork(1, 1);
        for (int i = 4; i < 8; i++) {
            x.plan(0, i);
        }
        x.fallIll(0, 2);
        x.begin();
        Check.due(Check.ELEMENT, "ill on the first day", () -> x.singer(0));
        Check.due(-1, "well while an evening is on", () -> x.fallIll(0, 0));
        Check.due(Check.ELEMENT, "the evening is not touched", () -> x.singer(0));
        x.fallIll(0, 2);
        x.end();
        x.pass(1);
        x.begin();
        Check.due(Check.ELEMENT, "ill on the last day, that one included", () -> x.singer(0));
        x.end();
        x.pass(1);
        x.begin();
        Check.due(0, "well on the day behind it", () -> x.singer(0));
        Check.due(6, "falls ill while singing", () -> x.fallIll(0, 1));
        Check.due(0, "sings on", () -> x.singer(0));
        x.end();
        x.fallIll(0, 5);
        x.fallIll(0, 0);
        x.pass(1);
        x.begin();
        Check.due(0, "well again at once", () -> x.singer(0));
    }

    private static void addMachine() {
        Theatrehouse x = new Theatrehouse();
        Check.due(Check.ARGUMENT, "zone below", () -> x.addMachine(-1, 0));
        Check.due(Check.ARGUMENT, "zone above", () -> x.addMachine(5, 0));
        Check.due(Check.ARGUMENT, "limit below", () -> x.addMachine(0, -1));
        Check.due(Check.ARGUMENT, "limit above", () -> x.addMachine(0, 10));
        Check.due(0, "least numbers", () -> x.addMachine(0, 0));
        Check.due(1, "greatest numbers", () -> x.addMachine(4, 9));
        for (int i = 2; i < 6; i++) {
            int number = i;
            Check.due(number, "machine " + i, () -> x.addMachine(1, 1));
        }
        Check.due(Check.STATE, "a seventh", () -> x.addMachine(1, 1));
        Check.due(Check.ARGUMENT, "a seventh out of range", () -> x.addMachine(5, 1));
        Check.due(0, "place of the last", () -> x.place(5));
        Check.due(Check.INDEX, "was not added", () -> x.place(6));

        Theatrehouse on = Houses.onWithoutCues();
        Check.due(Check.STATE, "while an evening is on", () -> on.addMachine(1, 1));
        Check.due(Check.ARGUMENT, "out of range while an evening is on", () -> on.addMachine(1, 10));
        on.end();
        Check.due(0, "behind the evening", () -> on.addMachine(1, 1));
    }

    private static void setInterlock() {
        Theatrehouse x = new Theatrehouse();
        for (int i = 0; i < 3; i++) {
            x.addMachine(i, 9);
        }
        Check.due(-1, "first interlock", () -> x.setInterlock(0, 1, 0, 7));
        Check.due(1, "in place of the one before", () -> x.setInterlock(0, 2, 2, 2));
        Check.due(-1, "interlocks are apart", () -> x.setInterlock(2, 0, 7, 7));
        Check.due(Check.INDEX, "no such machine", () -> x.setInterlock(3, 0, 0, 0));
        Check.due(Check.INDEX, "machine below", () -> x.setInterlock(-1, 0, 0, 0));
        Check.due(Check.INDEX, "none for none", () -> x.setInterlock(-1, -1, 0, 0));
        Check.due(Check.INDEX, "no such other", () -> x.setInterlock(0, 3, 0, 0));
        Check.due(Check.INDEX, "other below", () -> x.setInterlock(0, -2, 0, 0));
        Check.due(Check.INDEX, "itself, places out of range", () -> x.setInterlock(0, 0, 8, 8));
        Check.due(Check.ARGUMENT, "low below", () -> x.setInterlock(0, 1, -1, 3));
        Check.due(Check.ARGUMENT, "low above", () -> x.setInterlock(0, 1, 8, 8));
        Check.due(Check.ARGUMENT, "high above", () -> x.setInterlock(0, 1, 0, 8));
        Check.due(Check.ARGUMENT, "high below low", () -> x.setInterlock(0, 1, 3, 2));
        Check.due(Check.ARGUMENT, "places are looked at for none, too", () -> x.setInterlock(0, -1, 3, 2));
        Check.due(2, "refusals changed nothing", () -> x.setInterlock(0, -1, 0, 0));
        Check.due(-1, "no interlock before", () -> x.setInterlock(0, 2, 1, 4));

        x.addPerson(1, 1);
        x.addWork(1, 1);
        x.addCue(0, 'm', 0, 3, 1, 0);
        x.addCue(0, 'm', 1, 1, 1, 0);
        x.plan(0, 0);
        x.begin();
        Check.due(Check.STATE, "while an evening is on", () -> x.setInterlock(0, 1, 0, 7));
        Check.due(Check.ARGUMENT, "out of range while an evening is on", () -> x.setInterlock(0, 1, 5, 4));
        Check.due(Check.INDEX, "itself while an evening is on", () -> x.setInterlock(0, 0, 5, 4));
        Check.due('i', "the other is not at its place", () -> x.obstacle(0));
        Check.due('-', "no interlock", () -> x.obstacle(1));
    }
}
