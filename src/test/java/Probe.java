/**
 * Rows of calls that bring to light all that a house holds, as a text of their answers. There are several of them,
 * because one object is only good for 512 calls.
 */
final class Probe {
    static final int PARTS = 6;
    private static final int MOST_CALLS = 400;

    private final Theatrehouse x;
    private final StringBuilder text = new StringBuilder();
    private int calls = 0;

    private Probe(Theatrehouse x) {
        this.x = x;
    }

    static String part(int number, Theatrehouse x) {
        Probe probe = new Probe(x);
        switch (number) {
            case 0 -> probe.allThatCanBeAsked();
            case 1 -> probe.theEveningBackAndForth();
            case 2 -> probe.threeDays();
            case 3 -> probe.settings();
            case 4 -> probe.calendar();
            default -> probe.voices();
        }
        if (probe.calls > MOST_CALLS) {
            throw new AssertionError("a probe of " + probe.calls + " calls");
        }
        return probe.text.toString();
    }

    private void ask(String what, Check.Call call) {
        calls++;
        text.append(what).append(' ').append(Check.answer(call)).append('\n');
    }

    private void allThatCanBeAsked() {
        house();
        stage();
        orders();
        obstacles();
        for (int i = 0; i < 5; i++) {
            int role = i;
            ask("singer " + i, () -> x.singer(role));
        }
    }

    private void house() {
        ask("day", () -> x.day());
        ask("evenings", () -> x.evenings());
        ask("soldShare", () -> x.soldShare());
        ask("meanMinutes", () -> x.meanMinutes());
        ask("isConsistent", () -> x.isConsistent());
        for (int i = 0; i < 3; i++) {
            int work = i;
            ask("cues " + i, () -> x.cues(work));
            ask("balance " + i, () -> x.balance(work));
        }
        for (int i = 0; i < 10; i++) {
            int person = i;
            ask("sung " + i, () -> x.sung(person));
        }
    }

    private void stage() {
        ask("minutes", () -> x.minutes());
        for (int i = 0; i < 10; i++) {
            int person = i;
            ask("voice " + i, () -> x.voice(person));
            ask("zone " + i, () -> x.zone(person));
        }
        for (int i = 0; i < 6; i++) {
            int machine = i;
            ask("place " + i, () -> x.place(machine));
        }
    }

    private void orders() {
        ask("states", () -> x.states());
        ask("hasOrder", () -> x.hasOrder());
        ask("orders", () -> x.orders());
        ask("farthest", () -> x.farthest());
        ask("stuck", () -> x.stuck());
        for (int i = 0; i < 9; i++) {
            int index = i;
            ask("orderAt " + i, () -> x.orderAt(index));
        }
    }

    private void obstacles() {
        for (int i = 0; i < 9; i++) {
            int cue = i;
            ask("obstacle " + i, () -> x.obstacle(cue));
        }
    }

    /** Each cue once or twice, in the row of their numbers. */
    private void performAll(int rounds) {
        for (int i = 0; i < 9 * rounds; i++) {
            int cue = i % 9;
            ask("perform " + cue, () -> x.perform(cue));
        }
    }

    private void theEveningBackAndForth() {
        for (int i = 0; i < 10; i++) {
            ask("takeBack", () -> x.takeBack());
            if (i < 5) {
                stage();
                obstacles();
            }
        }
        performAll(2);
        orders();
        ask("end", () -> x.end());
        house();
    }

    /** Illness, covers, roles and interlocks show in the evenings of some days. */
    private void threeDays() {
        ask("end", () -> x.end());
        for (int i = 0; i < 3; i++) {
            ask("pass", () -> x.pass(1));
            ask("plan", () -> x.plan(0, x.day()));
            ask("begin", () -> x.begin());
            for (int role = 0; role < 5; role++) {
                int of = role;
                ask("singer " + role, () -> x.singer(of));
            }
            obstacles();
            performAll(2);
            stage();
            ask("end", () -> x.end());
        }
        house();
    }

    private void settings() {
        ask("end", () -> x.end());
        for (int i = 0; i < 10; i++) {
            int person = i;
            ask("setCover " + i, () -> x.setCover(person, -1));
        }
        for (int i = 0; i < 6; i++) {
            int machine = i;
            ask("setInterlock " + i, () -> x.setInterlock(machine, -1, 0, 0));
        }
        for (int i = 0; i < 45; i++) {
            int work = i / 15;
            int role = i / 3 % 5;
            int person = i % 3;
            ask("setRole " + work + " " + role + " " + person, () -> x.setRole(work, role, person));
        }
        for (int i = 0; i < 3; i++) {
            int work = i;
            ask("addCue " + i, () -> x.addCue(work, 'c', 0, 0, 1, 0));
        }
        ask("addPerson", () -> x.addPerson(1, 1));
        ask("addMachine", () -> x.addMachine(0, 0));
        ask("addWork", () -> x.addWork(1, 1));
        ask("plan the first work", () -> x.plan(0, 50));
        ask("plan the last work", () -> x.plan(2, 51));
        house();
    }

    private void calendar() {
        for (int i = 0; i < 100; i++) {
            int day = i;
            ask("sell " + i, () -> x.sell(day, 1));
            ask("plan " + i, () -> x.plan(0, day));
            ask("sell again " + i, () -> x.sell(day, 2));
        }
        house();
        ask("begin", () -> x.begin());
    }

    /** How tired the voices are, and what they can become at most. */
    private void voices() {
        ask("end", () -> x.end());
        for (int i = 0; i < 11; i++) {
            stage();
            ask("pass", () -> x.pass(1));
        }
        house();
    }
}
