/** Houses as several tests need them. */
final class Houses {
    private Houses() {
    }

    static Theatrehouse withPeople(int count) {
        Theatrehouse x = new Theatrehouse();
        for (int i = 0; i < count; i++) {
            x.addPerson(10 + i, 20 + i);
        }
        return x;
    }

    /** One person, one work with one role and no cue, its evening on. */
    static Theatrehouse onWithoutCues() {
        Theatrehouse x = withPeople(1);
        x.addWork(1, 1);
        x.plan(0, 0);
        x.begin();
        return x;
    }

    /** Plans the work 0 for today and begins it. */
    static void open(Theatrehouse x) {
        x.plan(0, x.day());
        x.begin();
    }

    static void perform(Theatrehouse x, int... row) {
        for (int cue : row) {
            x.perform(cue);
        }
    }
}
