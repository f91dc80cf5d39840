import java.util.ArrayList;
import java.util.Arrays;
import java.util.HashMap;
import java.util.HashSet;
import java.util.List;
import java.util.Map;
import java.util.Set;

/**
 * The document once more, written as differently as can be from the class: an evening is the list of its cues,
 * played again from its beginning for every question, and the books are counted anew from all that was ever done.
 * It answers as the class should, or throws what the class should throw.
 */
final class Model {
    static final class Person {
        int fee;
        int greatest;
        int cover = -1;
        int illTo = -1;
        /** The voice when the evening that is on, or the last pause, began. */
        int restedVoice;
    }

    static final class Machine {
        int zone;
        int limit;
        int other = -1;
        int low;
        int high;
    }

    static final class Cue {
        char kind;
        int a;
        int b;
        int minutes;
        int needs;
    }

    static final class Work {
        int price;
        int[] person;
        boolean[] set;
        List<Cue> cues = new ArrayList<>();
    }

    static final class Evening {
        int work;
        int sold;
        boolean begun;
        boolean over;
        int[] singers;
        List<Integer> done = new ArrayList<>();
    }

    /** What stands on the stage at one time. */
    static final class Stage {
        Set<Integer> done = new HashSet<>();
        Map<Integer, Integer> zones = new HashMap<>();
        Set<Integer> clear = new HashSet<>();
        int[] places = new int[6];
        int[] lights = new int[5];
        Map<Integer, Integer> voices = new HashMap<>();

        Stage copy() {
            Stage s = new Stage();
            s.done.addAll(done);
            s.zones.putAll(zones);
            s.clear.addAll(clear);
            s.places = places.clone();
            s.lights = lights.clone();
            s.voices.putAll(voices);
            return s;
        }

        String text() {
            return new java.util.TreeSet<>(done) + "/" + new java.util.TreeMap<>(zones) + "/"
                + new java.util.TreeSet<>(clear) + "/" + Arrays.toString(places) + "/" + Arrays.toString(lights)
                + "/" + new java.util.TreeMap<>(voices);
        }
    }

    final List<Person> people = new ArrayList<>();
    final List<Machine> machines = new ArrayList<>();
    final List<Work> works = new ArrayList<>();
    final Map<Integer, Evening> evenings = new HashMap<>();
    int today = 0;
    Evening on = null;
    Work work = null;

    private static void index(boolean bad) {
        if (bad) {
            throw new IndexOutOfBoundsException();
        }
    }

    private static void argument(boolean bad) {
        if (bad) {
            throw new IllegalArgumentException();
        }
    }

    private static void state(boolean bad) {
        if (bad) {
            throw new IllegalStateException();
        }
    }

    private static void unsupported(boolean bad) {
        if (bad) {
            throw new UnsupportedOperationException();
        }
    }

    private static void element(boolean bad) {
        if (bad) {
            throw new java.util.NoSuchElementException();
        }
    }

    private static boolean out(int number, int low, int high) {
        return number < low || number > high;
    }

    private boolean noPerson(int p) {
        return out(p, 0, people.size() - 1);
    }

    private boolean noMachine(int m) {
        return out(m, 0, machines.size() - 1);
    }

    private boolean noWork(int w) {
        return out(w, 0, works.size() - 1);
    }

    int addPerson(int fee, int voice) {
        argument(out(fee, 0, 99) || out(voice, 1, 30));
        state(people.size() == 10 || on != null);
        Person p = new Person();
        p.fee = fee;
        p.greatest = voice;
        p.restedVoice = voice;
        people.add(p);
        return people.size() - 1;
    }

    int setCover(int person, int cover) {
        index(noPerson(person) || cover != -1 && noPerson(cover) || person == cover);
        state(on != null);
        int before = people.get(person).cover;
        people.get(person).cover = cover;
        return before;
    }

    int fallIll(int person, int days) {
        index(noPerson(person));
        argument(out(days, 0, 30));
        people.get(person).illTo = days == 0 ? -1 : today + days - 1;
        return people.get(person).illTo;
    }

    int addMachine(int zone, int limit) {
        argument(out(zone, 0, 4) || out(limit, 0, 9));
        state(machines.size() == 6 || on != null);
        Machine m = new Machine();
        m.zone = zone;
        m.limit = limit;
        machines.add(m);
        return machines.size() - 1;
    }

    int setInterlock(int machine, int other, int low, int high) {
        index(noMachine(machine) || other != -1 && noMachine(other) || machine == other);
        argument(out(low, 0, 7) || out(high, 0, 7) || high < low);
        state(on != null);
        Machine m = machines.get(machine);
        int before = m.other;
        m.other = other;
        m.low = low;
        m.high = high;
        return before;
    }

    int addWork(int roles, int price) {
        argument(out(roles, 1, 5) || out(price, 1, 99));
        state(works.size() == 3 || on != null);
        Work w = new Work();
        w.price = price;
        w.person = new int[roles];
        w.set = new boolean[roles];
        works.add(w);
        return works.size() - 1;
    }

    int setRole(int number, int role, int person) {
        index(noWork(number) || out(role, 0, works.get(number).person.length - 1) || noPerson(person));
        Work w = works.get(number);
        for (int i = 0; i < w.person.length; i++) {
            unsupported(i != role && w.set[i] && w.person[i] == person);
        }
        state(on != null);
        int before = w.person[role];
        w.person[role] = person;
        w.set[role] = true;
        return before;
    }

    int addCue(int number, char kind, int a, int b, int minutes, int needs) {
        index(noWork(number));
        Work w = works.get(number);
        argument("egxcmsl".indexOf(kind) < 0);
        argument("egxs".indexOf(kind) >= 0 && out(a, 0, w.person.length - 1));
        argument("cl".indexOf(kind) >= 0 && out(a, 0, 4));
        argument(kind == 'm' && noMachine(a));
        argument("eg".indexOf(kind) >= 0 && out(b, 0, 4));
        argument("xc".indexOf(kind) >= 0 && b != 0);
        argument(kind == 'm' && out(b, 0, 7));
        argument(kind == 's' && out(b, 1, 30));
        argument(kind == 'l' && out(b, 0, 3));
        argument(out(minutes, 1, 60));
        argument(out(needs, 0, (1 << w.cues.size()) - 1));
        state(w.cues.size() == 9 || on != null);
        Cue c = new Cue();
        c.kind = kind;
        c.a = a;
        c.b = b;
        c.minutes = minutes;
        c.needs = needs;
        w.cues.add(c);
        return w.cues.size() - 1;
    }

    int cues(int number) {
        index(noWork(number));
        return works.get(number).cues.size();
    }

    int plan(int number, int day) {
        index(noWork(number));
        argument(out(day, today, 99));
        unsupported(evenings.containsKey(day));
        Evening e = new Evening();
        e.work = number;
        evenings.put(day, e);
        int count = 0;
        for (Evening each : evenings.values()) {
            count += each.over ? 0 : 1;
        }
        return count;
    }

    int sell(int day, int tickets) {
        argument(tickets == 0);
        Evening e = evenings.get(day);
        element(e == null || e.over || e == on && tickets < 0);
        unsupported((long) e.sold + tickets > 30 || (long) e.sold + tickets < 0);
        e.sold += tickets;
        return e.sold;
    }

    int pass(int days) {
        argument(out(days, 1, 30) || today + days > 99);
        state(on != null);
        for (int i = 0; i < days; i++) {
            Evening e = evenings.get(today);
            if (e != null && !e.begun) {
                e.over = true;
                e.sold = 0;
            }
            for (Person p : people) {
                p.restedVoice = Math.min(p.greatest, p.restedVoice + 3);
            }
            today++;
        }
        return today;
    }

    int day() {
        return today;
    }

    int begin() {
        state(on != null);
        Evening e = evenings.get(today);
        element(e == null || e.over);
        e.begun = true;
        on = e;
        work = works.get(e.work);
        e.singers = new int[work.person.length];
        for (int i = 0; i < e.singers.length; i++) {
            e.singers[i] = -1;
            if (noPerson(work.person[i])) {
                continue;
            }
            Person own = people.get(work.person[i]);
            if (own.illTo < today) {
                e.singers[i] = work.person[i];
            } else if (own.cover >= 0 && people.get(own.cover).illTo < today) {
                e.singers[i] = own.cover;
            }
        }
        return work.cues.size();
    }

    private Stage opening() {
        Stage s = new Stage();
        for (int i = 0; i < people.size(); i++) {
            s.voices.put(i, people.get(i).restedVoice);
        }
        return s;
    }

    private Stage present() {
        Stage s = opening();
        for (int cue : on.done) {
            play(s, cue);
        }
        return s;
    }

    private void play(Stage s, int cue) {
        Cue c = work.cues.get(cue);
        s.done.add(cue);
        switch (c.kind) {
            case 'e', 'g' -> {
                s.zones.put(on.singers[c.a], c.b);
                s.clear.remove(on.singers[c.a]);
            }
            case 'x' -> {
                s.zones.remove(on.singers[c.a]);
                s.clear.remove(on.singers[c.a]);
            }
            case 'c' -> s.clear.addAll(inZone(s, c.a));
            case 'm' -> {
                s.places[c.a] = c.b;
                s.clear.removeAll(inZone(s, machines.get(c.a).zone));
            }
            case 's' -> s.voices.merge(on.singers[c.a], -c.b, Integer::sum);
            default -> s.lights[c.a] = c.b;
        }
    }

    private static List<Integer> inZone(Stage s, int zone) {
        List<Integer> all = new ArrayList<>();
        for (Map.Entry<Integer, Integer> each : s.zones.entrySet()) {
            if (each.getValue() == zone) {
                all.add(each.getKey());
            }
        }
        return all;
    }

    private char why(Stage s, int cue) {
        Cue c = work.cues.get(cue);
        if (s.done.contains(cue)) {
            return 'd';
        }
        for (int i = 0; i < 9; i++) {
            if ((c.needs & 1 << i) != 0 && !s.done.contains(i)) {
                return 'n';
            }
        }
        if ("egxs".indexOf(c.kind) >= 0) {
            int singer = on.singers[c.a];
            if (singer == -1) {
                return 'r';
            }
            Integer zone = s.zones.get(singer);
            if (c.kind == 'e' ? zone != null : zone == null || c.kind == 'g' && zone == c.b) {
                return 'p';
            }
            if (c.kind == 's' && s.voices.get(singer) < c.b) {
                return 'v';
            }
            if (c.kind == 's' && s.lights[zone] == 0) {
                return 'k';
            }
        }
        if (c.kind == 'm') {
            Machine m = machines.get(c.a);
            if (m.other >= 0 && out(s.places[m.other], m.low, m.high)) {
                return 'i';
            }
            List<Integer> there = inZone(s, m.zone);
            if (!s.clear.containsAll(there)) {
                return 'u';
            }
            if (there.size() > m.limit) {
                return 'o';
            }
            if (s.places[c.a] == c.b) {
                return 's';
            }
        }
        return c.kind == 'l' && s.lights[c.a] == c.b ? 's' : '-';
    }

    private void needsCue(int cue) {
        state(on == null);
        index(out(cue, 0, work.cues.size() - 1));
    }

    int perform(int cue) {
        needsCue(cue);
        unsupported(why(present(), cue) != '-');
        on.done.add(cue);
        return minutes();
    }

    char obstacle(int cue) {
        needsCue(cue);
        return why(present(), cue);
    }

    int takeBack() {
        state(on == null);
        element(on.done.isEmpty());
        return on.done.remove(on.done.size() - 1);
    }

    int end() {
        state(on == null);
        Stage s = present();
        for (int i = 0; i < people.size(); i++) {
            people.get(i).restedVoice = s.voices.get(i);
        }
        on.over = true;
        int left = work.cues.size() - on.done.size();
        on = null;
        return left;
    }

    int singer(int role) {
        state(on == null);
        index(out(role, 0, on.singers.length - 1));
        element(on.singers[role] == -1);
        return on.singers[role];
    }

    int zone(int person) {
        state(on == null);
        index(noPerson(person));
        return present().zones.getOrDefault(person, -1);
    }

    int voice(int person) {
        index(noPerson(person));
        return on == null ? people.get(person).restedVoice : present().voices.get(person);
    }

    int place(int machine) {
        index(noMachine(machine));
        return on == null ? 0 : present().places[machine];
    }

    private int minutesOf(Evening e) {
        int sum = 0;
        for (int cue : e.done) {
            sum += works.get(e.work).cues.get(cue).minutes;
        }
        return sum;
    }

    int minutes() {
        state(on == null);
        return minutesOf(on);
    }

    // Orders: all states by their texts; what is asked of rows is found for each state and kept by its text.

    int statesUpTo(int most) {
        Set<String> seen = new HashSet<>();
        List<Stage> open = new ArrayList<>();
        open.add(present());
        seen.add(open.get(0).text());
        for (int i = 0; i < open.size() && seen.size() <= most; i++) {
            for (int cue = 0; cue < work.cues.size(); cue++) {
                if (why(open.get(i), cue) == '-') {
                    Stage next = open.get(i).copy();
                    play(next, cue);
                    if (seen.add(next.text())) {
                        open.add(next);
                    }
                }
            }
        }
        return seen.size();
    }

    private void told() {
        state(on == null);
        unsupported(statesUpTo(300) > 300);
    }

    int states() {
        told();
        return statesUpTo(300);
    }

    /** The first of the longest rows from a stage on. */
    private List<Integer> longest(Stage s, Map<String, List<Integer>> known) {
        List<Integer> best = known.get(s.text());
        if (best != null) {
            return best;
        }
        best = new ArrayList<>();
        for (int cue = 0; cue < work.cues.size(); cue++) {
            if (why(s, cue) == '-') {
                Stage next = s.copy();
                play(next, cue);
                List<Integer> row = longest(next, known);
                if (row.size() + 1 > best.size()) {
                    best = new ArrayList<>();
                    best.add(cue);
                    best.addAll(row);
                }
            }
        }
        known.put(s.text(), best);
        return best;
    }

    private long count(Stage s, Map<String, Long> known) {
        if (s.done.size() == work.cues.size()) {
            return 1;
        }
        Long have = known.get(s.text());
        if (have != null) {
            return have;
        }
        long sum = 0;
        for (int cue = 0; cue < work.cues.size(); cue++) {
            if (why(s, cue) == '-') {
                Stage next = s.copy();
                play(next, cue);
                sum += count(next, known);
            }
        }
        known.put(s.text(), sum);
        return sum;
    }

    boolean hasOrder() {
        return orders() > 0;
    }

    int orderAt(int index) {
        told();
        List<Integer> row = longest(present(), new HashMap<>());
        element(orders() == 0 || out(index, 0, row.size() - 1));
        return row.get(index);
    }

    int farthest() {
        told();
        return longest(present(), new HashMap<>()).size();
    }

    int stuck() {
        told();
        element(hasOrder());
        Set<Integer> done = present().done;
        done.addAll(longest(present(), new HashMap<>()));
        int cue = 0;
        while (done.contains(cue)) {
            cue++;
        }
        return cue;
    }

    long orders() {
        told();
        return count(present(), new HashMap<>());
    }

    // Books: from all that was done in all evenings.

    int balance(int number) {
        index(noWork(number));
        int sum = 0;
        for (Evening e : evenings.values()) {
            if (e.work != number) {
                continue;
            }
            sum += e.sold * works.get(number).price;
            Set<Integer> entered = new HashSet<>();
            for (int cue : e.done) {
                Cue c = works.get(number).cues.get(cue);
                if (c.kind == 's') {
                    sum -= c.b * people.get(e.singers[c.a]).fee;
                }
                if (c.kind == 'e') {
                    entered.add(e.singers[c.a]);
                }
            }
            for (int begun = 120; e.over && begun < minutesOf(e); begun += 10) {
                sum -= 5 * entered.size();
            }
        }
        return sum;
    }

    int sung(int person) {
        index(noPerson(person));
        int sum = 0;
        for (Evening e : evenings.values()) {
            for (int cue : e.done) {
                Cue c = works.get(e.work).cues.get(cue);
                sum += c.kind == 's' && e.singers[c.a] == person ? c.b : 0;
            }
        }
        return sum;
    }

    private List<Evening> ended() {
        List<Evening> all = new ArrayList<>();
        for (Evening e : evenings.values()) {
            if (e.begun && e.over) {
                all.add(e);
            }
        }
        return all;
    }

    int evenings() {
        return ended().size();
    }

    float soldShare() {
        int count = 0;
        int sold = 0;
        for (Evening e : evenings.values()) {
            if (e.begun || !e.over) {
                count++;
                sold += e.sold;
            }
        }
        if (count == 0) {
            throw new ArithmeticException();
        }
        return (float) sold / (float) (30 * count);
    }

    double meanMinutes() {
        int sum = 0;
        for (Evening e : ended()) {
            sum += minutesOf(e);
        }
        if (ended().isEmpty()) {
            throw new ArithmeticException();
        }
        return (double) sum / (double) ended().size();
    }
}
