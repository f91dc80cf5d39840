/** Houses as several tests need them. */
final class Houses {
    static final int MIN = Integer.MIN_VALUE;
    static final int MAX = Integer.MAX_VALUE;

    static final Twin.House NEW = Theatrehouse::new;
    static final Twin.House RICH = Houses::rich;
    static final Twin.House RICH_ON = Houses::richOn;
    static final Twin.House FULL = Houses::full;
    static final Twin.House FULL_ON = Houses::fullOn;

    private Houses() {
    }

    static Theatrehouse withPeople(int count) {
        Theatrehouse x = new Theatrehouse();
        for (int i = 0; i < count; i++) {
            x.addPerson(10 + i, 20 + i);
        }
        return x;
    }

    /** So many people and one work with so many roles, of which each has the person of its number. */
    static Theatrehouse withRoles(int count) {
        Theatrehouse x = withPeople(count);
        x.addWork(count, 1);
        for (int i = 0; i < count; i++) {
            x.setRole(0, i, i);
        }
        return x;
    }

    static Theatrehouse withMachines(int count) {
        Theatrehouse x = new Theatrehouse();
        for (int i = 0; i < count; i++) {
            x.addMachine(i % 5, i);
        }
        return x;
    }

    /** One person, one work with one role and no cue, its evening on. */
    static Theatrehouse onWithoutCues() {
        Theatrehouse x = withPeople(1);
        x.addWork(1, 1);
        x.plan(0, 0);
        x.begin();
        return x;
    }

    /** One person, and one work with one role and so many cues 'c' of a minute each, planned for today. */
    static Theatrehouse withFreeCues(int count) {
        Theatrehouse x = withPeople(1);
        x.addWork(1, 1);
        for (int i = 0; i < count; i++) {
            x.addCue(0, 'c', 0, 0, 1, 0);
        }
        x.plan(0, 0);
        return x;
    }

    /**
     * Something of everything, so that a refused call could spoil it: covers, one who is ill for two days, interlocks,
     * two works, evenings planned for the days 0, 1 and 3 with tickets sold, and room for one more of each.
     */
    static Theatrehouse rich() {
        Theatrehouse x = new Theatrehouse();
        x.addPerson(10, 20);
        x.addPerson(7, 12);
        x.addPerson(3, 30);
        x.addPerson(1, 5);
        x.setCover(0, 3);
        x.setCover(1, 2);
        x.addMachine(1, 1);
        x.addMachine(2, 9);
        x.addMachine(1, 0);
        x.setInterlock(1, 0, 2, 4);
        x.setInterlock(0, 2, 0, 6);
        x.addWork(3, 10);
        x.addWork(2, 7);
        x.setRole(0, 1, 1);
        x.setRole(1, 0, 2);
        x.addCue(0, 'e', 0, 1, 10, 0);
        x.addCue(0, 'l', 1, 1, 5, 0);
        x.addCue(0, 's', 0, 8, 20, 3);
        x.addCue(0, 'm', 0, 3, 30, 0);
        x.addCue(0, 'e', 1, 2, 60, 0);
        x.addCue(0, 'c', 2, 0, 1, 0);
        x.addCue(0, 'm', 1, 5, 15, 32);
        x.addCue(0, 'x', 1, 0, 12, 64);
        x.addCue(1, 'e', 1, 1, 60, 0);
        x.addCue(1, 'g', 1, 0, 60, 0);
        x.addCue(1, 'm', 2, 1, 30, 1);
        x.fallIll(1, 2);
        x.plan(0, 0);
        x.plan(1, 1);
        x.plan(0, 3);
        x.sell(0, 5);
        x.sell(1, 3);
        return x;
    }

    /** The evening of the rich house, of which some cues were done, a song the last one of them. */
    static Theatrehouse richOn() {
        Theatrehouse x = rich();
        x.begin();
        perform(x, 3, 0, 1, 2);
        return x;
    }

    /** As many people, machines, works, roles and cues as there can be, and an evening of the work 0 today. */
    static Theatrehouse full() {
        Theatrehouse x = withPeople(10);
        for (int i = 0; i < 6; i++) {
            x.addMachine(i % 5, i);
        }
        for (int work = 0; work < 3; work++) {
            x.addWork(5, 10 + work);
            for (int role = 0; role < 5; role++) {
                x.setRole(work, role, role + work);
            }
            for (int cue = 0; cue < 9; cue++) {
                x.addCue(work, cue < 5 ? 'e' : 's', cue % 5, 1 + cue % 4, 20, cue == 0 ? 0 : 1 << cue - 1);
            }
        }
        x.plan(0, 0);
        return x;
    }

    static Theatrehouse fullOn() {
        Theatrehouse x = full();
        x.begin();
        perform(x, 0, 1);
        return x;
    }

    /** Plans the work 0 for today and begins it. */
    static void open(Theatrehouse x) {
        x.plan(0, x.day());
        x.begin();
    }

    static void perform(Theatrehouse x, int... row) {
        for (int cue : row) {
            x.perform(cue);
        }
    }
}
