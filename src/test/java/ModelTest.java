/** Long runs of calls, the same each time, on the class and on the model side by side; every answer must agree. */
public final class ModelTest {
    private static final int RUNS = 3000;
    /** What an object answers behind its call 512 is free, so a run asks no more of it. */
    private static final int MOST_CALLS = 512;
    private static final int CALLS_OF_A_LOOK = 80;
    private static final char[] KINDS = {'e', 'e', 'g', 'x', 'c', 'c', 'm', 'm', 's', 's', 'l'};

    private static final char[] CROWDED_KINDS = {'e', 'e', 'c', 'c', 'm', 'm', 'x', 'l', 's'};

    private long seed;
    private int calls = 0;
    private final int run;
    private final Theatrehouse x = new Theatrehouse();
    private final Model m = new Model();
    private static final int[] SEEN = new int[256];

    private ModelTest(int run) {
        this.run = run;
        this.seed = run * 7919L + 17L;
    }

    public static void main(String[] args) {
        for (int run = 0; run < RUNS; run++) {
            new ModelTest(run).go();
        }
        for (char why : "dnrpiuovks-".toCharArray()) {
            Check.due(true, "the obstacle " + why + " came up, " + SEEN[why] + " times", () -> SEEN[why] > 100);
        }
        Check.finish("ModelTest");
    }

    /** Some runs are about those who stand under machines. */
    private boolean isCrowded() {
        return run % 4 == 0;
    }

    /** Some runs are about as many people, machines and zones as there can be. */
    private boolean isWide() {
        return run % 4 == 3;
    }

    private int someZone() {
        return next(isWide() ? 5 : 1 + run % 2);
    }

    private int next(int below) {
        seed = seed * 6364136223846793005L + 1442695040888963407L;
        return below < 1 ? 0 : (int) ((seed >>> 33) % below);
    }

    /** Mostly a number from 0 to most, now and then one outside. */
    private int about(int most) {
        if (next(25) != 0) {
            return next(most + 1);
        }
        int[] outside = {-1, most + 1, -1, most + 1, Integer.MIN_VALUE, Integer.MAX_VALUE};
        return outside[next(outside.length)];
    }

    private void same(String what, Check.Call mine, Check.Call due) {
        if (calls >= MOST_CALLS) {
            return;
        }
        calls++;
        Object want;
        try {
            want = due.go();
        } catch (RuntimeException e) {
            want = e.getClass();
        }
        Check.due(want, "run " + run + ": " + what, mine);
    }

    private void go() {
        build();
        while (calls < MOST_CALLS - CALLS_OF_A_LOOK) {
            if (m.on == null) {
                pause();
            } else {
                evening();
            }
            glance();
        }
        look();
    }

    private void build() {
        int people = isWide() ? 10 : next(8) == 0 ? next(2) : 2 + next(5);
        for (int i = 0; i < people; i++) {
            person();
        }
        int machines = isWide() ? 6 : next(6) == 0 ? 0 : 1 + next(3);
        for (int i = 0; i < machines; i++) {
            machine();
        }
        for (int i = 0; i < machines / 2; i++) {
            interlock();
        }
        for (int i = 0; i < 1 + next(2); i++) {
            work();
        }
        for (int i = 0; i < 8; i++) {
            role();
        }
        for (int i = 0; i < 16; i++) {
            cue();
        }
    }

    private void person() {
        int fee = about(99);
        int voice = 1 + about(29);
        same("addPerson", () -> x.addPerson(fee, voice), () -> m.addPerson(fee, voice));
    }

    private void machine() {
        int zone = next(6) == 0 ? about(4) : someZone();
        int limit = isCrowded() ? 0 : next(3) == 0 ? about(9) : next(2);
        same("addMachine", () -> x.addMachine(zone, limit), () -> m.addMachine(zone, limit));
    }

    private void interlock() {
        int machine = about(m.machines.size() - 1);
        int other = next(4) == 0 ? -1 : about(m.machines.size() - 1);
        int low = about(next(2) == 0 ? 7 : 2);
        int high = next(10) == 0 ? about(7) : Math.min(7, low + next(6));
        same("setInterlock", () -> x.setInterlock(machine, other, low, high),
            () -> m.setInterlock(machine, other, low, high));
    }

    private void work() {
        int roles = isWide() ? 5 : 1 + about(4);
        int price = 1 + about(98);
        same("addWork", () -> x.addWork(roles, price), () -> m.addWork(roles, price));
    }

    private void role() {
        int work = about(m.works.size() - 1);
        int role = about(isWide() ? 4 : 3);
        int person = about(m.people.size() - 1);
        same("setRole", () -> x.setRole(work, role, person), () -> m.setRole(work, role, person));
    }

    private void cover() {
        int person = about(m.people.size() - 1);
        int cover = about(m.people.size() - 1);
        same("setCover", () -> x.setCover(person, cover), () -> m.setCover(person, cover));
    }

    private void illness() {
        int person = about(m.people.size() - 1);
        int days = next(3) == 0 ? about(30) : next(4);
        same("fallIll", () -> x.fallIll(person, days), () -> m.fallIll(person, days));
    }

    private void cue() {
        int work = about(m.works.size() - 1);
        char[] kinds = isCrowded() ? CROWDED_KINDS : KINDS;
        char kind = next(40) == 0 ? 'z' : kinds[next(kinds.length)];
        int zones = next(6) == 0 ? 4 : someZone();
        int roles = work >= 0 && work < m.works.size() ? m.works.get(work).person.length : 1;
        int a = about(kind == 'm' ? m.machines.size() - 1 : kind == 'c' || kind == 'l' ? zones : roles - 1);
        int b = kind == 'e' || kind == 'g' ? about(zones) : kind == 'm' ? about(7) : kind == 'l' ? about(3) : 0;
        int voice = kind == 's' ? 1 + about(next(2) == 0 ? 29 : 8) : b;
        int minutes = 1 + about(59);
        int count = work >= 0 && work < m.works.size() ? m.works.get(work).cues.size() : 0;
        int needs = next(30) == 0 ? next(1024) - 1 : next(1 << count) & next(1 << count)
            & next(1 << count) & next(1 << count);
        same("addCue", () -> x.addCue(work, kind, a, voice, minutes, needs),
            () -> m.addCue(work, kind, a, voice, minutes, needs));
    }

    private void sale() {
        int day = next(3) == 0 ? about(99) : m.today + next(3);
        int tickets = next(40) == 0 ? about(31) : next(41) - (m.on == null ? 15 : 5);
        same("sell", () -> x.sell(day, tickets), () -> m.sell(day, tickets));
    }

    private void planning() {
        int work = about(m.works.size() - 1);
        int day = next(12) == 0 ? about(99) : m.today + next(3);
        same("plan", () -> x.plan(work, day), () -> m.plan(work, day));
    }

    private void passing() {
        int days = next(30) == 0 ? about(30) : 1 + next(2);
        same("pass", () -> x.pass(days), () -> m.pass(days));
    }

    private void pause() {
        switch (next(20)) {
            case 0 -> person();
            case 1 -> machine();
            case 2 -> interlock();
            case 3 -> work();
            case 4 -> role();
            case 5 -> cover();
            case 6, 7 -> illness();
            case 8 -> cue();
            case 9, 10 -> sale();
            case 11, 12 -> passing();
            case 13, 14, 15 -> planning();
            case 16 -> evening();
            default -> same("begin", () -> x.begin(), () -> m.begin());
        }
    }

    private void evening() {
        int cues = m.work == null ? 1 : Math.max(1, m.work.cues.size());
        int cue = next(3) == 0 ? about(cues - 1) : doable(cues);
        switch (next(60)) {
            case 0 -> person();
            case 1 -> machine();
            case 2 -> interlock();
            case 3 -> work();
            case 4 -> role();
            case 5 -> cover();
            case 6, 7 -> illness();
            case 8 -> cue();
            case 9, 10 -> sale();
            case 11 -> passing();
            case 12 -> planning();
            case 13 -> same("begin", () -> x.begin(), () -> m.begin());
            case 14, 15, 16 -> same("end", () -> x.end(), () -> m.end());
            case 17, 18, 19, 20, 21, 22, 23 -> same("takeBack", () -> x.takeBack(), () -> m.takeBack());
            case 24, 25, 26, 27 -> orders();
            default -> same("perform " + cue, () -> x.perform(cue), () -> m.perform(cue));
        }
    }

    /** A cue that can be done, where some tries find one, so that evenings get far. */
    private int doable(int cues) {
        int cue = next(cues);
        for (int i = 0; i < 8 && m.on != null && !m.work.cues.isEmpty() && m.obstacle(cue) != '-'; i++) {
            cue = next(cues);
        }
        return cue;
    }

    private void orders() {
        same("states", () -> x.states(), () -> m.states());
        same("hasOrder", () -> x.hasOrder(), () -> m.hasOrder());
        same("orders", () -> x.orders(), () -> m.orders());
        same("farthest", () -> x.farthest(), () -> m.farthest());
        same("stuck", () -> x.stuck(), () -> m.stuck());
        int index = about(8);
        same("orderAt", () -> x.orderAt(index), () -> m.orderAt(index));
        for (int i = 0; i < 3; i++) {
            int low = i;
            same("orderAt " + i, () -> x.orderAt(low), () -> m.orderAt(low));
        }
    }

    /** One thing of all that can be looked at, so that a call that changed too much or too little is found. */
    private void glance() {
        int person = about(m.people.size() - 1);
        int cue = about(8);
        switch (next(12)) {
            case 0 -> books();
            case 1 -> same("voice " + person, () -> x.voice(person), () -> m.voice(person));
            case 2 -> same("zone " + person, () -> x.zone(person), () -> m.zone(person));
            case 3 -> same("sung " + person, () -> x.sung(person), () -> m.sung(person));
            case 4 -> machine(about(m.machines.size() - 1));
            case 5 -> work(about(m.works.size() - 1));
            case 6 -> singer(about(4));
            case 7 -> same("isConsistent", () -> x.isConsistent(), () -> true);
            default -> {
                obstacle(cue);
                obstacle(next(9));
            }
        }
    }

    /** All that can be looked at. */
    private void look() {
        books();
        same("isConsistent", () -> x.isConsistent(), () -> true);
        for (int i = -1; i <= m.people.size(); i++) {
            int person = i;
            same("voice " + i, () -> x.voice(person), () -> m.voice(person));
            same("zone " + i, () -> x.zone(person), () -> m.zone(person));
            same("sung " + i, () -> x.sung(person), () -> m.sung(person));
        }
        for (int i = -1; i <= m.machines.size(); i++) {
            machine(i);
        }
        for (int i = -1; i <= m.works.size(); i++) {
            work(i);
        }
        for (int role = -1; role <= 5; role++) {
            singer(role);
        }
        for (int cue = -1; cue <= 9; cue++) {
            obstacle(cue);
        }
    }

    private void books() {
        same("day", () -> x.day(), () -> m.day());
        same("minutes", () -> x.minutes(), () -> m.minutes());
        same("evenings", () -> x.evenings(), () -> m.evenings());
        same("soldShare", () -> x.soldShare(), () -> m.soldShare());
        same("meanMinutes", () -> x.meanMinutes(), () -> m.meanMinutes());
    }

    private void machine(int machine) {
        same("place " + machine, () -> x.place(machine), () -> m.place(machine));
    }

    private void work(int work) {
        same("balance " + work, () -> x.balance(work), () -> m.balance(work));
        same("cues " + work, () -> x.cues(work), () -> m.cues(work));
    }

    private void singer(int role) {
        same("singer " + role, () -> x.singer(role), () -> m.singer(role));
    }

    private void obstacle(int cue) {
        same("obstacle " + cue, () -> x.obstacle(cue), () -> m.obstacle(cue));
        if (m.on != null && cue >= 0 && cue < m.work.cues.size()) {
            SEEN[m.obstacle(cue)]++;
        }
    }
}
