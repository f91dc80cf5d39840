/** Promises 16 to 24. */
public final class EveningTest {
    public static void main(String[] args) {
        needsAnEvening();
        perform();
        obstacleOrder();
        obstaclesOfSingers();
        obstaclesOfSongs();
        obstaclesOfMachines();
        clearIsLost();
        takeBack();
        end();
        singer();
        singerWithoutPeople();
        sharedSinger();
        zone();
        place();
        Check.finish("EveningTest");
    }

    /** One singer of this greatest voice: 0 enters the zone 1, 1 lights it, 2 sings with the voice needed. */
    static Theatrehouse singing(int voice, int needed) {
        Theatrehouse x = new Theatrehouse();
        x.addPerson(4, voice);
        x.addWork(1, 9);
        x.addCue(0, 'e', 0, 1, 10, 0);
        x.addCue(0, 'l', 1, 1, 10, 0);
        x.addCue(0, 's', 0, needed, 10, 0);
        Houses.open(x);
        return x;
    }

    private static void needsAnEvening() {
        Theatrehouse x = Houses.withPeople(1);
        x.addWork(1, 1);
        x.plan(0, 0);
        for (int i = 0; i < 2; i++) {
            Check.due(Check.STATE, "perform", () -> x.perform(0));
            Check.due(Check.STATE, "perform no such cue", () -> x.perform(-1));
            Check.due(Check.STATE, "obstacle", () -> x.obstacle(0));
            Check.due(Check.STATE, "obstacle of no such cue", () -> x.obstacle(9));
            Check.due(Check.STATE, "takeBack", () -> x.takeBack());
            Check.due(Check.STATE, "end", () -> x.end());
            Check.due(Check.STATE, "singer", () -> x.singer(0));
            Check.due(Check.STATE, "singer of no such role", () -> x.singer(5));
            Check.due(Check.STATE, "zone", () -> x.zone(0));
            Check.due(Check.STATE, "zone of no such person", () -> x.zone(9));
            Check.due(Check.STATE, "minutes", () -> x.minutes());
            if (i == 0) {
                x.begin();
                x.end();
            }
        }
    }

    private static void perform() {
        Theatrehouse x = singing(20, 5);
        Check.due(Check.INDEX, "no such cue", () -> x.perform(3));
        Check.due(Check.INDEX, "cue below", () -> x.perform(-1));
        Check.due(Check.UNSUPPORTED, "cannot be done", () -> x.perform(2));
        Check.due(0, "a refusal takes no minutes", () -> x.minutes());
        Check.due(10, "the first", () -> x.perform(0));
        Check.due(Check.UNSUPPORTED, "was done", () -> x.perform(0));
        Check.due(20, "the second", () -> x.perform(1));
        Check.due(30, "the third", () -> x.perform(2));
        Check.due(30, "minutes", () -> x.minutes());
        Check.due(15, "the voice is taken", () -> x.voice(0));
        Check.due(-20, "the fee is taken", () -> x.balance(0));
        Check.due(1, "the zone", () -> x.zone(0));
        Check.due(Check.INDEX, "a cue above those of the work", () -> x.obstacle(3));
        Check.due(Check.INDEX, "obstacle below", () -> x.obstacle(-1));
    }

    private static void obstacleOrder() {
        Theatrehouse x = Houses.withPeople(1);
        x.addMachine(0, 0);
        x.addMachine(1, 9);
        x.setInterlock(0, 1, 1, 1);
        x.addWork(1, 1);
        x.addCue(0, 'e', 0, 0, 1, 0);
        x.addCue(0, 'm', 0, 0, 1, 1);
        x.addCue(0, 'm', 1, 1, 1, 0);
        x.addCue(0, 'c', 0, 0, 1, 0);
        x.addCue(0, 'x', 0, 0, 1, 0);
        x.addCue(0, 'e', 0, 2, 1, 16);
        Houses.open(x);
        Check.due('n', "missing, and interlock, and there already", () -> x.obstacle(1));
        x.perform(0);
        Check.due('i', "interlock, and not clear, and limit", () -> x.obstacle(1));
        x.perform(2);
        Check.due('u', "not clear, and limit, and there already", () -> x.obstacle(1));
        x.perform(3);
        Check.due('o', "limit, and there already", () -> x.obstacle(1));
        x.perform(4);
        Check.due('s', "there already", () -> x.obstacle(1));
        Check.due('d', "was done, though he is off the stage", () -> x.obstacle(0));
        Check.due('d', "c was done", () -> x.obstacle(3));
        Check.due('-', "enters again", () -> x.obstacle(5));
        x.perform(5);
        Check.due('d', "was done, and not where it is needed", () -> x.obstacle(4));
    }

    private static void obstaclesOfSingers() {
        Theatrehouse x = Houses.withPeople(1);
        x.addWork(1, 1);
        x.addCue(0, 'e', 0, 2, 1, 0);
        x.addCue(0, 'e', 0, 3, 1, 0);
        x.addCue(0, 'g', 0, 2, 1, 0);
        x.addCue(0, 'g', 0, 4, 1, 0);
        x.addCue(0, 'x', 0, 0, 1, 0);
        x.addCue(0, 's', 0, 1, 1, 0);
        Houses.open(x);
        Check.due('-', "e off the stage", () -> x.obstacle(0));
        Check.due('p', "g off the stage", () -> x.obstacle(3));
        Check.due('p', "x off the stage", () -> x.obstacle(4));
        Check.due('p', "s off the stage", () -> x.obstacle(5));
        x.perform(0);
        Check.due('p', "e on the stage", () -> x.obstacle(1));
        Check.due('p', "g in the same zone", () -> x.obstacle(2));
        Check.due('-', "g in another zone", () -> x.obstacle(3));
        Check.due('-', "x on the stage", () -> x.obstacle(4));
        x.perform(3);
        Check.due(4, "went", () -> x.zone(0));
        Check.due('-', "g back", () -> x.obstacle(2));
        x.perform(4);
        Check.due(-1, "left", () -> x.zone(0));
        Check.due('-', "e once more", () -> x.obstacle(1));

        Theatrehouse ill = Houses.withPeople(1);
        ill.addWork(1, 1);
        ill.addCue(0, 'e', 0, 2, 1, 0);
        ill.addCue(0, 'g', 0, 2, 1, 0);
        ill.addCue(0, 'x', 0, 0, 1, 0);
        ill.addCue(0, 's', 0, 1, 1, 0);
        ill.addCue(0, 's', 0, 1, 1, 1);
        ill.addCue(0, 'c', 0, 0, 1, 0);
        ill.fallIll(0, 1);
        Houses.open(ill);
        for (int i = 0; i < 4; i++) {
            int cue = i;
            Check.due('r', "no singer for cue " + i, () -> ill.obstacle(cue));
        }
        Check.due('n', "missing, and no singer", () -> ill.obstacle(4));
        Check.due('-', "c needs no singer", () -> ill.obstacle(5));
        Check.due(Check.UNSUPPORTED, "cannot be done", () -> ill.perform(0));
    }

    private static void obstaclesOfSongs() {
        Theatrehouse weak = singing(5, 6);
        weak.perform(0);
        Check.due('v', "voice, and no light", () -> weak.obstacle(2));
        weak.perform(1);
        Check.due('v', "voice", () -> weak.obstacle(2));

        Theatrehouse x = singing(6, 6);
        x.perform(0);
        Check.due('k', "no light", () -> x.obstacle(2));
        x.perform(1);
        Check.due('-', "just enough voice", () -> x.obstacle(2));
        x.perform(2);
        Check.due(0, "no voice is left", () -> x.voice(0));

        Theatrehouse lights = Houses.withPeople(1);
        lights.addWork(1, 1);
        lights.addCue(0, 'l', 3, 0, 1, 0);
        lights.addCue(0, 'l', 3, 3, 1, 0);
        lights.addCue(0, 'l', 3, 3, 1, 0);
        lights.addCue(0, 'l', 2, 3, 1, 0);
        Houses.open(lights);
        Check.due('s', "the light is 0 already", () -> lights.obstacle(0));
        lights.perform(1);
        Check.due('s', "the light is 3 already", () -> lights.obstacle(2));
        Check.due('-', "the light of another zone", () -> lights.obstacle(3));
        Check.due('-', "back to 0", () -> lights.obstacle(0));

        Theatrehouse early = Houses.withPeople(1);
        early.addWork(1, 1);
        early.addCue(0, 's', 0, 11, 1, 0);
        early.addCue(0, 'e', 0, 0, 1, 0);
        early.addCue(0, 'l', 0, 1, 1, 0);
        early.addCue(0, 's', 0, 10, 1, 0);
        Houses.open(early);
        Houses.perform(early, 1, 2, 0);
        Check.due('v', "the voice of the cue 0 is gone, too", () -> early.obstacle(3));

        Theatrehouse tired = Houses.withPeople(1);
        tired.addWork(1, 1);
        tired.addCue(0, 'e', 0, 0, 1, 0);
        tired.addCue(0, 'l', 0, 1, 1, 0);
        tired.addCue(0, 's', 0, 11, 1, 0);
        tired.addCue(0, 's', 0, 10, 1, 0);
        tired.addCue(0, 's', 0, 9, 1, 0);
        Houses.open(tired);
        Houses.perform(tired, 0, 1, 2);
        Check.due('v', "a voice of 9 is left", () -> tired.obstacle(3));
        Check.due('-', "which is enough for 9", () -> tired.obstacle(4));
        tired.end();
        tired.pass(1);
        Houses.open(tired);
        Houses.perform(tired, 0, 1, 2);
        Check.due('v', "a voice of 1 is left of 12 on the next day", () -> tired.obstacle(4));
    }

    private static void obstaclesOfMachines() {
        Theatrehouse x = Houses.withPeople(2);
        x.addMachine(2, 1);
        x.addMachine(3, 9);
        x.setInterlock(1, 0, 3, 5);
        x.addWork(2, 1);
        x.setRole(0, 1, 1);
        x.addCue(0, 'm', 0, 2, 1, 0);
        x.addCue(0, 'm', 0, 3, 1, 0);
        x.addCue(0, 'm', 0, 5, 1, 0);
        x.addCue(0, 'm', 0, 6, 1, 0);
        x.addCue(0, 'm', 1, 7, 1, 0);
        x.addCue(0, 'e', 0, 2, 1, 0);
        x.addCue(0, 'e', 1, 2, 1, 0);
        x.addCue(0, 'c', 2, 0, 1, 0);
        x.addCue(0, 'm', 0, 0, 1, 0);
        Houses.open(x);
        Check.due('s', "at the place 0 already", () -> x.obstacle(8));
        char[] expected = {'i', '-', '-', 'i'};
        for (int i = 0; i < 4; i++) {
            int cue = i;
            Check.due(i + 1, "the other moves", () -> x.perform(cue));
            Check.due(expected[i], "interlock behind cue " + i, () -> x.obstacle(4));
        }
        x.perform(5);
        Check.due('u', "one who was not told", () -> x.obstacle(8));
        x.perform(7);
        Check.due('-', "one who was told, the limit is 1", () -> x.obstacle(8));
        x.perform(6);
        Check.due('u', "one of two was not told", () -> x.obstacle(8));
        x.takeBack();
        x.takeBack();
        x.perform(6);
        x.perform(7);
        Check.due('o', "two who were told", () -> x.obstacle(8));
    }

    private static void clearIsLost() {
        Theatrehouse x = Houses.withPeople(1);
        x.addMachine(0, 9);
        x.addMachine(1, 9);
        x.addWork(1, 1);
        x.addCue(0, 'e', 0, 0, 1, 0);
        x.addCue(0, 'c', 0, 0, 1, 0);
        x.addCue(0, 'm', 0, 1, 1, 0);
        x.addCue(0, 'm', 0, 2, 1, 0);
        x.addCue(0, 'g', 0, 1, 1, 0);
        x.addCue(0, 'm', 1, 1, 1, 0);
        x.addCue(0, 'x', 0, 0, 1, 0);
        x.addCue(0, 'e', 0, 1, 1, 0);
        x.addCue(0, 'c', 1, 0, 1, 0);
        Houses.open(x);
        Houses.perform(x, 1, 0);
        Check.due('u', "who enters was not told", () -> x.obstacle(2));
        Houses.perform(x, 4);
        Check.due('-', "an empty zone is clear", () -> x.obstacle(2));
        Check.due('u', "who goes was not told", () -> x.obstacle(5));
        x.takeBack();
        x.takeBack();
        x.takeBack();
        Houses.perform(x, 0, 1);
        Check.due('-', "told", () -> x.obstacle(2));
        x.perform(2);
        Check.due('u', "not told any more when the machine has moved", () -> x.obstacle(3));
        x.takeBack();
        x.perform(5);
        Check.due('-', "another zone's machine changes nothing", () -> x.obstacle(2));
        x.takeBack();
        x.perform(4);
        Check.due('u', "who goes is not told any more", () -> x.obstacle(5));
        x.takeBack();
        Houses.perform(x, 6, 7);
        Check.due('u', "who leaves and enters is not told any more", () -> x.obstacle(5));
        x.perform(8);
        Check.due('-', "told in the zone 1", () -> x.obstacle(5));
    }

    private static void takeBack() {
        Theatrehouse x = Houses.withPeople(1);
        x.addMachine(3, 9);
        x.addWork(1, 1);
        x.addCue(0, 'e', 0, 2, 10, 0);
        x.addCue(0, 'l', 2, 1, 20, 0);
        x.addCue(0, 's', 0, 15, 30, 0);
        x.addCue(0, 'm', 0, 4, 40, 0);
        Houses.open(x);
        Check.due(Check.ELEMENT, "none was done", () -> x.takeBack());
        Houses.perform(x, 1, 0, 3, 2);
        Check.due(2, "the last one", () -> x.takeBack());
        Check.due(70, "with its minutes", () -> x.minutes());
        Check.due(20, "with its voice", () -> x.voice(0));
        Check.due(0, "with its pay", () -> x.balance(0));
        Check.due(0, "it is not sung", () -> x.sung(0));
        Check.due('-', "it can be done again", () -> x.obstacle(2));
        Check.due(3, "the one ahead of it", () -> x.takeBack());
        Check.due(0, "the place comes back", () -> x.place(0));
        Check.due(0, "the one who entered", () -> x.takeBack());
        Check.due(-1, "the zone comes back", () -> x.zone(0));
        Check.due(1, "the light", () -> x.takeBack());
        Check.due('-', "the light comes back", () -> x.obstacle(1));
        Check.due(Check.ELEMENT, "all were taken back", () -> x.takeBack());
        Check.due(0, "no minutes", () -> x.minutes());
    }

    private static void end() {
        Theatrehouse x = singing(20, 5);
        Houses.perform(x, 0);
        Check.due(2, "two were not done", () -> x.end());
        Check.due(Check.STATE, "it is over", () -> x.end());
        Check.due(1, "it has ended", () -> x.evenings());
        x.pass(1);
        Houses.open(x);
        Houses.perform(x, 0, 1, 2);
        Check.due(0, "all were done", () -> x.end());
        Check.due(15, "the voice stays taken", () -> x.voice(0));
        Check.due(-20, "the pay stays taken", () -> x.balance(0));
        x.pass(1);
        Houses.open(x);
        Check.due(3, "none was done", () -> x.end());
    }

    private static void singer() {
        Theatrehouse x = Houses.withPeople(4);
        x.addWork(2, 1);
        x.setRole(0, 1, 1);
        x.setCover(0, 2);
        x.setCover(2, 3);
        for (int i = 0; i < 5; i++) {
            x.plan(0, i);
        }
        x.begin();
        Check.due(0, "the person", () -> x.singer(0));
        Check.due(1, "of the second role", () -> x.singer(1));
        Check.due(Check.INDEX, "no such role", () -> x.singer(2));
        Check.due(Check.INDEX, "role below", () -> x.singer(-1));
        x.end();
        x.pass(1);
        x.fallIll(0, 4);
        x.fallIll(1, 1);
        x.begin();
        Check.due(2, "the cover", () -> x.singer(0));
        Check.due(Check.ELEMENT, "no cover", () -> x.singer(1));
        Check.due(Check.INDEX, "no such role ahead of no singer", () -> x.singer(2));
        x.end();
        x.pass(1);
        x.fallIll(2, 1);
        x.begin();
        Check.due(Check.ELEMENT, "the cover is ill, and its own cover does not count", () -> x.singer(0));
        Check.due(1, "well again", () -> x.singer(1));
        x.end();
        x.pass(1);
        x.setCover(0, -1);
        x.begin();
        Check.due(Check.ELEMENT, "the cover was taken away", () -> x.singer(0));
    }

    /** The document has a role's person 0 at first, also in a house without people: then nobody can sing it. */
    private static void singerWithoutPeople() {
        Theatrehouse x = new Theatrehouse();
        x.addWork(1, 1);
        x.addCue(0, 'e', 0, 1, 1, 0);
        Houses.open(x);
        Check.due(Check.ELEMENT, "no person, no singer", () -> x.singer(0));
        Check.due('r', "no person, no cue", () -> x.obstacle(0));
        Check.due(Check.INDEX, "no such person", () -> x.zone(0));
    }

    private static void sharedSinger() {
        Theatrehouse x = Houses.withPeople(1);
        x.addWork(3, 1);
        x.addCue(0, 'e', 2, 1, 1, 0);
        x.addCue(0, 'e', 1, 1, 1, 0);
        x.addCue(0, 'g', 1, 3, 1, 0);
        x.addCue(0, 'l', 3, 2, 1, 0);
        x.addCue(0, 's', 0, 12, 1, 0);
        x.addCue(0, 's', 2, 12, 1, 0);
        Houses.open(x);
        Check.due(0, "the person 0 sings all", () -> x.singer(2));
        x.perform(0);
        Check.due('p', "is on the stage in another role", () -> x.obstacle(1));
        x.perform(2);
        Check.due(3, "goes in another role", () -> x.zone(0));
        Houses.perform(x, 3, 4);
        Check.due('v', "one voice for all roles", () -> x.obstacle(5));
        Check.due(8, "the voice that is left", () -> x.voice(0));
        Check.due(12, "the voice that was sung", () -> x.sung(0));
    }

    private static void zone() {
        Theatrehouse x = Houses.withPeople(3);
        x.addWork(2, 1);
        x.setRole(0, 0, 2);
        x.addCue(0, 'e', 0, 4, 1, 0);
        x.addCue(0, 'e', 1, 0, 1, 0);
        Houses.open(x);
        Houses.perform(x, 0, 1);
        Check.due(4, "the person 2", () -> x.zone(2));
        Check.due(0, "the person 0", () -> x.zone(0));
        Check.due(-1, "one without a role", () -> x.zone(1));
        Check.due(Check.INDEX, "no such person", () -> x.zone(3));
        Check.due(Check.INDEX, "person below", () -> x.zone(-1));
        Check.due(20, "voice of the person 0", () -> x.voice(0));
        Check.due(Check.INDEX, "voice of no such person", () -> x.voice(3));
        Check.due(Check.INDEX, "voice below", () -> x.voice(-1));
    }

    private static void place() {
        Theatrehouse x = Houses.withPeople(1);
        for (int i = 0; i < 6; i++) {
            x.addMachine(0, 0);
        }
        x.addWork(1, 1);
        for (int i = 0; i < 6; i++) {
            x.addCue(0, 'm', i, i + 2, 1, 0);
        }
        Houses.open(x);
        for (int i = 0; i < 6; i++) {
            int machine = i;
            Check.due(0, "at first", () -> x.place(machine));
            x.perform(i);
            Check.due(i + 2, "moved", () -> x.place(machine));
        }
        for (int i = 0; i < 6; i++) {
            int machine = i;
            Check.due(i + 2, "stays", () -> x.place(machine));
        }
        Check.due(Check.INDEX, "no such machine", () -> x.place(6));
        Check.due(Check.INDEX, "machine below", () -> x.place(-1));
        x.end();
        Check.due(0, "without an evening", () -> x.place(5));
        Check.due(Check.INDEX, "no such machine without an evening", () -> x.place(6));
    }
}
