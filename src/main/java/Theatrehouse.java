import java.util.NoSuchElementException;

/** An opera house through a season; what each call promises stands in the project's document. */
public final class Theatrehouse {
    private static final int NONE = -1;
    private static final int MOST_PEOPLE = 10;
    private static final int MOST_MACHINES = 6;
    private static final int MOST_WORKS = 3;
    private static final int MOST_ROLES = 5;
    private static final int MOST_CUES = 9;
    private static final int ZONES = 5;
    private static final int GREATEST_PLACE = 7;
    private static final int GREATEST_LIGHT = 3;
    private static final int GREATEST_VOICE = 30;
    private static final int GREATEST_LIMIT = 9;
    private static final int GREATEST_FEE = 99;
    private static final int GREATEST_PRICE = 99;
    private static final int LONGEST_CUE = 60;
    private static final int LONGEST_PASS = 30;
    private static final int LONGEST_ILLNESS = 30;
    private static final int VOICE_A_DAY = 3;
    private static final int LAST_DAY = 99;
    private static final int SEATS = 30;
    private static final int PAID_MINUTES = 120;
    private static final int OVERTIME_STEP = 10;
    private static final int OVERTIME_PAY = 5;
    private static final int MOST_STATES = 300;
    private static final int MOST_TRIED_CUES = 5;

    private final Person[] people = new Person[MOST_PEOPLE];
    private final Machine[] machines = new Machine[MOST_MACHINES];
    private final Work[] works = new Work[MOST_WORKS];
    private final Evening[] calendar = new Evening[LAST_DAY + 1];
    private final Show show = new Show();
    private final Search search = new Search();
    private final Trial trial = new Trial();
    private int peopleCount = 0;
    private int machineCount = 0;
    private int workCount = 0;
    private int today = 0;
    private boolean showIsOn = false;
    private int endedCount = 0;
    private int endedMinutes = 0;

    public Theatrehouse() {
        for (int i = 0; i < MOST_PEOPLE; i++) {
            people[i] = new Person();
        }
        for (int i = 0; i < MOST_MACHINES; i++) {
            machines[i] = new Machine();
        }
        for (int i = 0; i < MOST_WORKS; i++) {
            works[i] = new Work();
        }
        for (int i = 0; i <= LAST_DAY; i++) {
            calendar[i] = new Evening();
        }
    }

    // ---- people and machines.

    public int addPerson(int fee, int voice) throws IllegalArgumentException, IllegalStateException {
        requireRange(fee, 0, GREATEST_FEE);
        requireRange(voice, 1, GREATEST_VOICE);
        requireRoom(peopleCount, MOST_PEOPLE);
        requireNoShow();
        Person person = people[peopleCount];
        person.fee = fee;
        person.greatestVoice = voice;
        person.voice = voice;
        peopleCount++;
        return peopleCount - 1;
    }

    public int setCover(int person, int cover) throws IndexOutOfBoundsException, IllegalStateException {
        requirePerson(person);
        if (cover != NONE) {
            requirePerson(cover);
        }
        requireOther(person, cover);
        requireNoShow();
        int before = people[person].cover;
        people[person].cover = cover;
        return before;
    }

    public int fallIll(int person, int days) throws IndexOutOfBoundsException, IllegalArgumentException {
        requirePerson(person);
        requireRange(days, 0, LONGEST_ILLNESS);
        int lastDay = days == 0 ? NONE : today + days - 1;
        people[person].lastIllDay = lastDay;
        return lastDay;
    }

    public int addMachine(int zone, int limit) throws IllegalArgumentException, IllegalStateException {
        requireRange(zone, 0, ZONES - 1);
        requireRange(limit, 0, GREATEST_LIMIT);
        requireRoom(machineCount, MOST_MACHINES);
        requireNoShow();
        Machine machine = machines[machineCount];
        machine.zone = zone;
        machine.limit = limit;
        machineCount++;
        return machineCount - 1;
    }

    public int setInterlock(int machine, int other, int low, int high)
            throws IndexOutOfBoundsException, IllegalArgumentException, IllegalStateException {
        requireMachine(machine);
        if (other != NONE) {
            requireMachine(other);
        }
        requireOther(machine, other);
        requireRange(low, 0, GREATEST_PLACE);
        requireRange(high, low, GREATEST_PLACE);
        requireNoShow();
        Machine locked = machines[machine];
        int before = locked.other;
        locked.other = other;
        locked.low = low;
        locked.high = high;
        return before;
    }

    // ---- works.

    public int addWork(int roles, int price) throws IllegalArgumentException, IllegalStateException {
        requireRange(roles, 1, MOST_ROLES);
        requireRange(price, 1, GREATEST_PRICE);
        requireRoom(workCount, MOST_WORKS);
        requireNoShow();
        Work work = works[workCount];
        work.roles = roles;
        work.price = price;
        workCount++;
        return workCount - 1;
    }

    public int setRole(int work, int role, int person)
            throws IndexOutOfBoundsException, UnsupportedOperationException, IllegalStateException {
        requireWork(work);
        if (role < 0 || role >= works[work].roles) {
            throw new IndexOutOfBoundsException("no such role");
        }
        requirePerson(person);
        if (works[work].hasAnotherSetRole(role, person)) {
            throw new UnsupportedOperationException("the person has another role of this work");
        }
        requireNoShow();
        int before = works[work].persons[role];
        works[work].persons[role] = person;
        works[work].roleWasSet[role] = true;
        return before;
    }

    public int addCue(int work, char kind, int a, int b, int minutes, int needs)
            throws IndexOutOfBoundsException, IllegalArgumentException, IllegalStateException {
        requireWork(work);
        Work of = works[work];
        requireRange(a, 0, greatestA(kind, of));
        requireRange(b, leastB(kind), greatestB(kind));
        requireRange(minutes, 1, LONGEST_CUE);
        if (needs >>> of.cueCount != 0) {
            throw new IllegalArgumentException("a cue that must be done ahead has no lower number");
        }
        requireRoom(of.cueCount, MOST_CUES);
        requireNoShow();
        Cue cue = of.cueRows[of.cueCount];
        cue.kind = kind;
        cue.a = a;
        cue.b = b;
        cue.minutes = minutes;
        cue.needs = needs;
        of.cueCount++;
        return of.cueCount - 1;
    }

    public int cues(int work) throws IndexOutOfBoundsException {
        requireWork(work);
        return works[work].cueCount;
    }

    // ---- the season.

    public int plan(int work, int day)
            throws IndexOutOfBoundsException, IllegalArgumentException, UnsupportedOperationException {
        requireWork(work);
        requireRange(day, today, LAST_DAY);
        Evening evening = calendar[day];
        if (evening.status != Status.FREE) {
            throw new UnsupportedOperationException("there is an evening on this day");
        }
        evening.status = Status.PLANNED;
        evening.work = work;
        return countEvenings(Status.PLANNED) + countEvenings(Status.ON);
    }

    public int sell(int day, int tickets)
            throws IllegalArgumentException, NoSuchElementException, UnsupportedOperationException {
        if (tickets == 0) {
            throw new IllegalArgumentException("no tickets");
        }
        if (!canSell(day, tickets)) {
            throw new NoSuchElementException("no evening to sell these tickets for");
        }
        Evening evening = calendar[day];
        long sold = (long) evening.sold + tickets;
        if (sold < 0 || sold > SEATS) {
            throw new UnsupportedOperationException("more than all or fewer than no tickets");
        }
        evening.sold += tickets;
        works[evening.work].balance += tickets * works[evening.work].price;
        return evening.sold;
    }

    public int pass(int days) throws IllegalArgumentException, IllegalStateException {
        requireRange(days, 1, LONGEST_PASS);
        requireRange(today + days, 0, LAST_DAY);
        requireNoShow();
        for (int missed = today; missed < today + days; missed++) {
            callOff(calendar[missed]);
        }
        for (int i = 0; i < peopleCount; i++) {
            people[i].rest(days);
        }
        today += days;
        return today;
    }

    public int day() {
        return today;
    }

    public int begin() throws IllegalStateException, NoSuchElementException {
        requireNoShow();
        Evening evening = calendar[today];
        if (evening.status != Status.PLANNED) {
            throw new NoSuchElementException("no evening is planned for today");
        }
        evening.status = Status.ON;
        showIsOn = true;
        Work work = works[evening.work];
        show.open(work, machines);
        for (int role = 0; role < work.roles; role++) {
            int singer = choose(work.persons[role]);
            if (singer != NONE) {
                show.cast(role, singer, people[singer].voice);
            }
        }
        search.forget();
        return work.cueCount;
    }

    // ---- an evening.

    public int perform(int cue) throws IllegalStateException, IndexOutOfBoundsException, UnsupportedOperationException {
        requireShow();
        requireCue(cue);
        if (show.hindrance(show.now, cue) != '-') {
            throw new UnsupportedOperationException("the cue cannot be done now");
        }
        show.advance(cue);
        countSong(show.work.cueRows[cue], 1);
        search.forget();
        return show.minutesTaken;
    }

    public char obstacle(int cue) throws IllegalStateException, IndexOutOfBoundsException {
        requireShow();
        requireCue(cue);
        return show.hindrance(show.now, cue);
    }

    public int takeBack() throws IllegalStateException, NoSuchElementException {
        requireShow();
        if (show.doneCount <= 0) {
            throw new NoSuchElementException("no cue was done");
        }
        int cue = show.retreat();
        countSong(show.work.cueRows[cue], -1);
        search.forget();
        return cue;
    }

    public int end() throws IllegalStateException {
        requireShow();
        show.work.balance -= overtimePay(show.minutesTaken) * show.countEntered();
        calendar[today].status = Status.ENDED;
        showIsOn = false;
        endedCount++;
        endedMinutes += show.minutesTaken;
        return show.countLeft();
    }

    public int singer(int role) throws IllegalStateException, IndexOutOfBoundsException, NoSuchElementException {
        requireShow();
        if (role < 0 || role >= show.work.roles) {
            throw new IndexOutOfBoundsException("no such role");
        }
        if (show.singers[role] == NONE) {
            throw new NoSuchElementException("the role has no singer");
        }
        return show.singers[role];
    }

    public int zone(int person) throws IllegalStateException, IndexOutOfBoundsException {
        requireShow();
        requirePerson(person);
        return show.zoneOf(person);
    }

    public int voice(int person) throws IndexOutOfBoundsException {
        requirePerson(person);
        return people[person].voice;
    }

    public int place(int machine) throws IndexOutOfBoundsException {
        requireMachine(machine);
        return showIsOn ? Packed.placeOf(show.now, machine) : 0;
    }

    public int minutes() throws IllegalStateException {
        requireShow();
        return show.minutesTaken;
    }

    // ---- orders.

    public int states() throws IllegalStateException, UnsupportedOperationException {
        requireToldOrders();
        return search.size;
    }

    public boolean hasOrder() throws IllegalStateException, UnsupportedOperationException {
        requireToldOrders();
        return search.foundOrder();
    }

    public int orderAt(int index) throws IllegalStateException, UnsupportedOperationException, NoSuchElementException {
        requireToldOrders();
        if (!search.foundOrder()) {
            throw new NoSuchElementException("there is no order");
        }
        if (index < 0 || index >= search.rowLength) {
            throw new NoSuchElementException("the order has no such index");
        }
        return search.row[index];
    }

    public int farthest() throws IllegalStateException, UnsupportedOperationException {
        requireToldOrders();
        return search.rowLength;
    }

    public int stuck() throws IllegalStateException, UnsupportedOperationException, NoSuchElementException {
        requireToldOrders();
        if (search.foundOrder()) {
            throw new NoSuchElementException("there is an order");
        }
        return search.firstLeftBehind();
    }

    public long orders() throws IllegalStateException, UnsupportedOperationException {
        requireToldOrders();
        return search.orderCounts[0];
    }

    // ---- books.

    public int balance(int work) throws IndexOutOfBoundsException {
        requireWork(work);
        return works[work].balance;
    }

    public int sung(int person) throws IndexOutOfBoundsException {
        requirePerson(person);
        return people[person].voiceSung;
    }

    public int evenings() {
        return endedCount;
    }

    public float soldShare() throws ArithmeticException {
        int count = countEvenings(Status.PLANNED) + countEvenings(Status.ON) + countEvenings(Status.ENDED);
        if (count == 0) {
            throw new ArithmeticException("no evenings");
        }
        int tickets = 0;
        for (int i = 0; i <= LAST_DAY; i++) {
            tickets += calendar[i].sold;
        }
        return (float) tickets / (float) (SEATS * count);
    }

    public double meanMinutes() throws ArithmeticException {
        if (endedCount == 0) {
            throw new ArithmeticException("no evening has ended");
        }
        return (double) endedMinutes / (double) endedCount;
    }

    public boolean isConsistent() {
        for (int i = 0; i < peopleCount; i++) {
            if (people[i].voice < 0 || people[i].voice > people[i].greatestVoice) {
                return false;
            }
        }
        if (!showIsOn || show.countLeft() > MOST_TRIED_CUES) {
            return true;
        }
        search.explore(show);
        if (search.hasTooMany) {
            return true;
        }
        trial.tryAll(show);
        return trial.agrees(search);
    }

    // ---- what the calls above share.

    private static void requireRange(int number, int least, int greatest) {
        if (number < least || number > greatest) {
            throw new IllegalArgumentException("a number is out of range");
        }
    }

    private static void requireRoom(int count, int most) {
        if (count >= most) {
            throw new IllegalStateException("there is no room for one more");
        }
    }

    private static void requireOther(int one, int other) {
        if (one == other) {
            throw new IndexOutOfBoundsException("both are the same");
        }
    }

    private void requirePerson(int person) {
        if (!isPerson(person)) {
            throw new IndexOutOfBoundsException("no such person");
        }
    }

    private void requireMachine(int machine) {
        if (machine < 0 || machine >= machineCount) {
            throw new IndexOutOfBoundsException("no such machine");
        }
    }

    private void requireWork(int work) {
        if (work < 0 || work >= workCount) {
            throw new IndexOutOfBoundsException("no such work");
        }
    }

    private void requireCue(int cue) {
        if (cue < 0 || cue >= show.work.cueCount) {
            throw new IndexOutOfBoundsException("no such cue");
        }
    }

    private void requireShow() {
        if (!showIsOn) {
            throw new IllegalStateException("no evening is on");
        }
    }

    private void requireNoShow() {
        if (showIsOn) {
            throw new IllegalStateException("an evening is on");
        }
    }

    private void requireToldOrders() {
        requireShow();
        search.explore(show);
        if (search.hasTooMany) {
            throw new UnsupportedOperationException("too many states can come up");
        }
    }

    private boolean isPerson(int person) {
        return person >= 0 && person < peopleCount;
    }

    /** The greatest a of a cue of this kind; NONE, and so no a at all, where there is no such kind. */
    private int greatestA(char kind, Work work) {
        switch (kind) {
            case 'e':
            case 'g':
            case 'x':
            case 's':
                return work.roles - 1;
            case 'c':
            case 'l':
                return ZONES - 1;
            case 'm':
                return machineCount - 1;
            default:
                return NONE;
        }
    }

    private static int leastB(char kind) {
        return kind == 's' ? 1 : 0;
    }

    private static int greatestB(char kind) {
        switch (kind) {
            case 'e':
            case 'g':
                return ZONES - 1;
            case 'm':
                return GREATEST_PLACE;
            case 's':
                return GREATEST_VOICE;
            case 'l':
                return GREATEST_LIGHT;
            default:
                return 0;
        }
    }

    private int countEvenings(Status status) {
        int count = 0;
        for (int i = 0; i <= LAST_DAY; i++) {
            if (calendar[i].status == status) {
                count++;
            }
        }
        return count;
    }

    private boolean canSell(int day, int tickets) {
        if (day < 0 || day > LAST_DAY) {
            return false;
        }
        Status status = calendar[day].status;
        return status == Status.PLANNED || status == Status.ON && tickets > 0;
    }

    private void callOff(Evening evening) {
        if (evening.status == Status.PLANNED) {
            works[evening.work].balance -= evening.sold * works[evening.work].price;
            evening.sold = 0;
            evening.status = Status.MISSED;
        }
    }

    /** Who sings for a person today. A role may still name person 0 when the house has no people. */
    private int choose(int person) {
        if (!isPerson(person)) {
            return NONE;
        }
        if (!people[person].isIll(today)) {
            return person;
        }
        int cover = people[person].cover;
        return isPerson(cover) && !people[cover].isIll(today) ? cover : NONE;
    }

    /** Books the voice and the pay of a cue that is done (1) or taken back (-1). */
    private void countSong(Cue cue, int times) {
        if (cue.kind != 's' || show.singers[cue.a] == NONE) {
            return;
        }
        Person singer = people[show.singers[cue.a]];
        int used = times * cue.b;
        singer.voice -= used;
        singer.voiceSung += used;
        show.work.balance -= used * singer.fee;
    }

    private static int overtimePay(int minutes) {
        if (minutes <= PAID_MINUTES) {
            return 0;
        }
        return (minutes - PAID_MINUTES + OVERTIME_STEP - 1) / OVERTIME_STEP * OVERTIME_PAY;
    }

    private static final class Person {
        int fee = 0;
        int greatestVoice = 0;
        int voice = 0;
        int voiceSung = 0;
        int cover = NONE;
        int lastIllDay = NONE;

        boolean isIll(int day) {
            return day <= lastIllDay;
        }

        void rest(int days) {
            voice = Math.min(greatestVoice, voice + VOICE_A_DAY * days);
        }
    }

    private static final class Machine {
        int zone = 0;
        int limit = 0;
        int other = NONE;
        int low = 0;
        int high = 0;
    }

    private static final class Cue {
        char kind = 'c';
        int a = 0;
        int b = 0;
        int minutes = 0;
        int needs = 0;
    }

    private static final class Work {
        int roles = 0;
        int price = 0;
        int balance = 0;
        int cueCount = 0;
        final Cue[] cueRows = new Cue[MOST_CUES];
        final int[] persons = new int[MOST_ROLES];
        final boolean[] roleWasSet = new boolean[MOST_ROLES];

        Work() {
            for (int i = 0; i < MOST_CUES; i++) {
                cueRows[i] = new Cue();
            }
        }

        boolean hasAnotherSetRole(int role, int person) {
            for (int i = 0; i < roles; i++) {
                if (i != role && roleWasSet[i] && persons[i] == person) {
                    return true;
                }
            }
            return false;
        }
    }

    private enum Status { FREE, PLANNED, ON, ENDED, MISSED }

    private static final class Evening {
        Status status = Status.FREE;
        int work = 0;
        int sold = 0;
    }

    /**
     * A state of an evening in one number, so that 300 of them need no objects and are compared at once.
     * A singer stands in it at the lowest role that he or she sings; the voices follow from the cues that were done.
     */
    private static final class Packed {
        private static final int PLACE_BITS = 9;
        private static final int STAND_BITS = 27;
        private static final int CLEAR_BITS = 42;
        private static final int LIGHT_BITS = 47;

        private static int read(long state, int from, int width) {
            return (int) (state >>> from) & ((1 << width) - 1);
        }

        private static long write(long state, int from, int width, int number) {
            long mask = ((1L << width) - 1L) << from;
            return (state & ~mask) | (((long) number << from) & mask);
        }

        static int done(long state) {
            return read(state, 0, MOST_CUES);
        }

        static boolean isDone(long state, int cue) {
            return (state >>> cue & 1L) != 0L;
        }

        static long withDone(long state, int cue) {
            return write(state, cue, 1, 1);
        }

        static int placeOf(long state, int machine) {
            return read(state, PLACE_BITS + 3 * machine, 3);
        }

        static long withPlace(long state, int machine, int place) {
            return write(state, PLACE_BITS + 3 * machine, 3, place);
        }

        /** The zone in which a singer is, or NONE off the stage, for which 0 is kept. */
        static int stand(long state, int slot) {
            return read(state, STAND_BITS + 3 * slot, 3) - 1;
        }

        static long withStand(long state, int slot, int zone) {
            return write(state, STAND_BITS + 3 * slot, 3, zone + 1);
        }

        static boolean isClear(long state, int slot) {
            return read(state, CLEAR_BITS + slot, 1) == 1;
        }

        static long withClear(long state, int slot, boolean clear) {
            return write(state, CLEAR_BITS + slot, 1, clear ? 1 : 0);
        }

        static int light(long state, int zone) {
            return read(state, LIGHT_BITS + 2 * zone, 2);
        }

        static long withLight(long state, int zone, int light) {
            return write(state, LIGHT_BITS + 2 * zone, 2, light);
        }
    }

    /** The evening that is on: its cast, what was done, and the rules by which cues can be done. */
    private static final class Show {
        Machine[] machines = new Machine[0];
        Work work = new Work();
        final int[] singers = new int[MOST_ROLES];
        final int[] slots = new int[MOST_ROLES];
        final int[] firstVoices = new int[MOST_ROLES];
        long now = 0L;
        final long[] statesBefore = new long[MOST_CUES];
        final int[] doneCues = new int[MOST_CUES];
        int doneCount = 0;
        int minutesTaken = 0;

        void open(Work opened, Machine[] onStage) {
            work = opened;
            machines = onStage;
            now = 0L;
            doneCount = 0;
            minutesTaken = 0;
            for (int role = 0; role < MOST_ROLES; role++) {
                singers[role] = NONE;
                slots[role] = NONE;
                firstVoices[role] = 0;
            }
        }

        /** Roles are cast from the lowest one on, so that the first role of a singer is the slot. */
        void cast(int role, int singer, int voice) {
            singers[role] = singer;
            firstVoices[role] = voice;
            slots[role] = firstRoleOf(singer);
        }

        private int firstRoleOf(int singer) {
            for (int role = 0; role < MOST_ROLES; role++) {
                if (singers[role] == singer) {
                    return role;
                }
            }
            return NONE;
        }

        int zoneOf(int person) {
            int slot = firstRoleOf(person);
            return slot == NONE ? NONE : Packed.stand(now, slot);
        }

        int countLeft() {
            return work.cueCount - doneCount;
        }

        int countEntered() {
            int entered = 0;
            for (int i = 0; i < doneCount; i++) {
                Cue cue = work.cueRows[doneCues[i]];
                if (cue.kind == 'e') {
                    entered |= 1 << slots[cue.a];
                }
            }
            return Integer.bitCount(entered);
        }

        void advance(int cue) {
            statesBefore[doneCount] = now;
            doneCues[doneCount] = cue;
            doneCount++;
            minutesTaken += work.cueRows[cue].minutes;
            now = after(now, cue);
        }

        int retreat() {
            doneCount--;
            int cue = doneCues[doneCount];
            minutesTaken -= work.cueRows[cue].minutes;
            now = statesBefore[doneCount];
            return cue;
        }

        /** Why a cue cannot be done in a state, or '-'. */
        char hindrance(long state, int number) {
            Cue cue = work.cueRows[number];
            if (Packed.isDone(state, number)) {
                return 'd';
            }
            if ((cue.needs & ~Packed.done(state)) != 0) {
                return 'n';
            }
            switch (cue.kind) {
                case 'c':
                    return '-';
                case 'm':
                    return machineHindrance(state, cue);
                case 'l':
                    return Packed.light(state, cue.a) == cue.b ? 's' : '-';
                default:
                    return singerHindrance(state, cue);
            }
        }

        private char singerHindrance(long state, Cue cue) {
            int slot = slots[cue.a];
            if (slot == NONE) {
                return 'r';
            }
            int zone = Packed.stand(state, slot);
            if (!isNeededPlace(cue, zone)) {
                return 'p';
            }
            if (cue.kind != 's') {
                return '-';
            }
            if (voiceIn(state, slot) < cue.b) {
                return 'v';
            }
            return Packed.light(state, zone) == 0 ? 'k' : '-';
        }

        private static boolean isNeededPlace(Cue cue, int zone) {
            if (cue.kind == 'e') {
                return zone == NONE;
            }
            if (cue.kind == 'g') {
                return zone != NONE && zone != cue.b;
            }
            return zone != NONE;
        }

        private int voiceIn(long state, int slot) {
            int left = firstVoices[slot];
            for (int i = 0; i < work.cueCount; i++) {
                Cue cue = work.cueRows[i];
                if (cue.kind == 's' && slots[cue.a] == slot && Packed.isDone(state, i)) {
                    left -= cue.b;
                }
            }
            return left;
        }

        private char machineHindrance(long state, Cue cue) {
            Machine machine = machines[cue.a];
            if (machine.other != NONE) {
                int otherPlace = Packed.placeOf(state, machine.other);
                if (otherPlace < machine.low || otherPlace > machine.high) {
                    return 'i';
                }
            }
            int inZone = 0;
            for (int slot = 0; slot < MOST_ROLES; slot++) {
                if (Packed.stand(state, slot) == machine.zone) {
                    inZone++;
                    if (!Packed.isClear(state, slot)) {
                        return 'u';
                    }
                }
            }
            if (inZone > machine.limit) {
                return 'o';
            }
            return Packed.placeOf(state, cue.a) == cue.b ? 's' : '-';
        }

        /** The state behind a cue that can be done. */
        long after(long state, int number) {
            Cue cue = work.cueRows[number];
            long behind = Packed.withDone(state, number);
            switch (cue.kind) {
                case 'e':
                case 'g':
                    return move(behind, slots[cue.a], cue.b);
                case 'x':
                    return move(behind, slots[cue.a], NONE);
                case 'c':
                    return tell(behind, cue.a, true);
                case 'm':
                    return tell(Packed.withPlace(behind, cue.a, cue.b), machines[cue.a].zone, false);
                case 'l':
                    return Packed.withLight(behind, cue.a, cue.b);
                default:
                    return behind;
            }
        }

        private static long move(long state, int slot, int zone) {
            return Packed.withClear(Packed.withStand(state, slot, zone), slot, false);
        }

        private static long tell(long state, int zone, boolean clear) {
            long told = state;
            for (int slot = 0; slot < MOST_ROLES; slot++) {
                if (Packed.stand(state, slot) == zone) {
                    told = Packed.withClear(told, slot, clear);
                }
            }
            return told;
        }
    }

    /**
     * The states that can come up from where an evening is, those with fewer cues done first.
     * The first of the longest rows is the first order, if there is one: an order is a longest row.
     */
    private static final class Search {
        final long[] states = new long[MOST_STATES];
        final int[] nextStates = new int[MOST_STATES * MOST_CUES];
        final int[] lengths = new int[MOST_STATES];
        final long[] orderCounts = new long[MOST_STATES];
        final int[] row = new int[MOST_CUES];
        int size = 0;
        int cueCount = 0;
        int leftCount = 0;
        int rowLength = 0;
        long rowEnd = 0L;
        boolean hasTooMany = false;
        private int layer = 0;
        private boolean isExplored = false;

        void forget() {
            isExplored = false;
        }

        void explore(Show show) {
            if (isExplored) {
                return;
            }
            isExplored = true;
            cueCount = show.work.cueCount;
            leftCount = show.countLeft();
            hasTooMany = false;
            states[0] = show.now;
            size = 1;
            layer = 0;
            for (int from = 0; from < MOST_STATES && from < size && !hasTooMany; from++) {
                if (from == layer) {
                    layer = size;
                }
                follow(show, from);
            }
            if (!hasTooMany) {
                measure();
                findRow();
            }
        }

        private void follow(Show show, int from) {
            for (int cue = 0; cue < cueCount; cue++) {
                boolean canBeDone = show.hindrance(states[from], cue) == '-';
                nextStates[from * MOST_CUES + cue] = canBeDone ? keep(show.after(states[from], cue)) : NONE;
            }
        }

        /** A state behind one cue more can only be the same as one of the layer that is being filled. */
        private int keep(long state) {
            for (int i = layer; i < size; i++) {
                if (states[i] == state) {
                    return i;
                }
            }
            if (size >= MOST_STATES) {
                hasTooMany = true;
                return NONE;
            }
            states[size] = state;
            size++;
            return size - 1;
        }

        private void measure() {
            for (int from = size - 1; from >= 0; from--) {
                lengths[from] = 0;
                orderCounts[from] = Integer.bitCount(Packed.done(states[from])) == cueCount ? 1L : 0L;
                for (int cue = 0; cue < cueCount; cue++) {
                    int next = nextStates[from * MOST_CUES + cue];
                    if (next != NONE) {
                        lengths[from] = Math.max(lengths[from], lengths[next] + 1);
                        orderCounts[from] += orderCounts[next];
                    }
                }
            }
        }

        private void findRow() {
            rowLength = lengths[0];
            int from = 0;
            for (int i = 0; i < rowLength && from != NONE; i++) {
                row[i] = firstOnLongest(from);
                from = row[i] == NONE ? NONE : nextStates[from * MOST_CUES + row[i]];
            }
            rowEnd = from == NONE ? 0L : states[from];
        }

        private int firstOnLongest(int from) {
            for (int cue = 0; cue < cueCount; cue++) {
                int next = nextStates[from * MOST_CUES + cue];
                if (next != NONE && lengths[next] + 1 == lengths[from]) {
                    return cue;
                }
            }
            return NONE;
        }

        boolean foundOrder() {
            return rowLength == leftCount;
        }

        int firstLeftBehind() {
            for (int cue = 0; cue < cueCount; cue++) {
                if (!Packed.isDone(rowEnd, cue)) {
                    return cue;
                }
            }
            return NONE;
        }
    }

    /** All rows of a few cues, one by one: what a search tells is held against them. */
    private static final class Trial {
        private final int[] row = new int[MOST_TRIED_CUES];
        private final int[] firstOrder = new int[MOST_TRIED_CUES];
        private int leftCount = 0;
        private int longest = 0;
        private long orderCount = 0L;

        void tryAll(Show show) {
            leftCount = show.countLeft();
            longest = 0;
            orderCount = 0L;
            tryRows(this, show, show.now, 0);
        }

        private static void tryRows(Trial trial, Show show, long state, int depth) {
            trial.longest = Math.max(trial.longest, depth);
            if (depth >= trial.leftCount || depth >= MOST_TRIED_CUES) {
                trial.countOrder();
                return;
            }
            for (int cue = 0; cue < show.work.cueCount; cue++) {
                if (show.hindrance(state, cue) == '-') {
                    trial.row[depth] = cue;
                    tryRows(trial, show, show.after(state, cue), depth + 1);
                }
            }
        }

        private void countOrder() {
            orderCount++;
            if (orderCount == 1L) {
                System.arraycopy(row, 0, firstOrder, 0, MOST_TRIED_CUES);
            }
        }

        boolean agrees(Search search) {
            if (orderCount != search.orderCounts[0] || longest != search.rowLength) {
                return false;
            }
            if ((orderCount > 0L) != search.foundOrder()) {
                return false;
            }
            for (int i = 0; i < leftCount && orderCount > 0L; i++) {
                if (firstOrder[i] != search.row[i]) {
                    return false;
                }
            }
            return true;
        }
    }
}
