/** Promises 11 to 15, sentence by sentence. */
public final class SeasonSentencesTest {
    private static final int MIN = Houses.MIN;
    private static final int MAX = Houses.MAX;

    public static void main(String[] args) throws ReflectiveOperationException {
        Sentences.run(SeasonSentencesTest.class);
    }

    /** One person and two works, the first one with one cue; the day is this one. */
    private static Theatrehouse onTheDay(int day) {
        Theatrehouse x = Houses.withPeople(1);
        x.addWork(1, 10);
        x.addWork(1, 7);
        x.addCue(0, 'c', 0, 0, 1, 0);
        toTheDay(x, day);
        return x;
    }

    private static void toTheDay(Theatrehouse x, int day) {
        for (int i = 0; i < 4 && x.day() < day; i++) {
            x.pass(Math.min(30, day - x.day()));
        }
    }

    // ---- Promise 11: plan.

    @Says(promise = 11, value = "Plans an evening of a work")
    static void promise11PlansAnEvening() {
        Theatrehouse x = onTheDay(0);
        x.plan(1, 0);
        x.plan(0, 1);
        Check.due(1, "tickets are sold", () -> x.sell(0, 1));
        Check.due(7, "for the work that was planned", () -> x.balance(1));
        Check.due(0, "and for no other", () -> x.balance(0));
        Check.due(0, "it begins", () -> x.begin());
        x.end();
        x.pass(1);
        Check.due(1, "the other one begins", () -> x.begin());
    }

    @Says(promise = 11, value = "`work`: the number of the work")
    static void promise11WorkIsANumber() {
        for (int work : new int[] {MIN, -1, 2, 3, MAX}) {
            Twin.refused(Check.INDEX, "the work " + work, Houses.RICH, x -> x.plan(work, 2));
            Twin.refused(Check.INDEX, "while on, " + work, Houses.RICH_ON, x -> x.plan(work, 2));
        }
        Twin.due(4, "the work 0", Houses.RICH, x -> x.plan(0, 2));
        Twin.due(4, "the last work", Houses.RICH, x -> x.plan(1, 2));
        Twin.due(2, "the last of 3", Houses.FULL, x -> x.plan(2, 2));
        Twin.refused(Check.INDEX, "the work 3", Houses.FULL, x -> x.plan(3, 2));
    }

    @Says(promise = 11, value = "`day`: the day, from today on, to 99")
    static void promise11DayIsFromTodayTo99() {
        for (int day : new int[] {MIN, -2, -1, 100, 101, MAX}) {
            Twin.refused(Check.ARGUMENT, "the day " + day, Houses.RICH, x -> x.plan(0, day));
        }
        for (int today : new int[] {0, 1, 30, 98, 99}) {
            for (int day : new int[] {0, 1, 29, 30, 31, 97, 98, 99, 100}) {
                Object due = day < today || day > 99 ? Check.ARGUMENT : (Object) 1;
                Twin.due(due, "the day " + day + " on the day " + today, () -> onTheDay(today), x -> x.plan(0, day));
            }
            Twin.refused(Check.ARGUMENT, "yesterday, on the day " + today, () -> onTheDay(today),
                x -> x.plan(0, today - 1));
        }
    }

    @Says(promise = 11, value = "Returns how many evenings are planned and not over, the one that is on included")
    static void promise11ReturnsHowManyArePlanned() {
        Theatrehouse x = onTheDay(0);
        for (int day = 0; day < 100; day++) {
            int of = day;
            Check.due(day + 1, "planned up to the day " + day, () -> x.plan(of % 2, of));
        }
        Theatrehouse y = onTheDay(0);
        Check.due(1, "the first one", () -> y.plan(0, 0));
        y.begin();
        Check.due(2, "the one that is on included", () -> y.plan(0, 5));
        y.end();
        Check.due(2, "the one that has ended not included", () -> y.plan(1, 3));
        y.pass(4);
        Check.due(2, "the one that did not begin not included", () -> y.plan(1, 4));
    }

    @Says(promise = 11, value = "Throws `IndexOutOfBoundsException` if there is no such work")
    static void promise11ThrowsIfThereIsNoSuchWork() {
        Twin.refused(Check.INDEX, "none at all", Houses.NEW, x -> x.plan(0, 0));
        Twin.refused(Check.INDEX, "a third of two", Houses.RICH, x -> x.plan(2, 99));
    }

    @Says(promise = 11, value = "Throws `IllegalArgumentException` if the day is out of range")
    static void promise11ThrowsIfTheDayIsOutOfRange() {
        Twin.refused(Check.ARGUMENT, "yesterday, where an evening was", () -> afterThreeDays(), x -> x.plan(0, 0));
        Twin.refused(Check.ARGUMENT, "yesterday, where none was", () -> afterThreeDays(), x -> x.plan(0, 2));
        Twin.refused(Check.ARGUMENT, "behind the last day", () -> afterThreeDays(), x -> x.plan(0, 100));
        Twin.refused(Check.ARGUMENT, "while an evening is on", Houses.RICH_ON, x -> x.plan(1, 100));
    }

    /** The rich house on the day 3: the evening of the day 0 has ended, and that of the day 1 did not begin. */
    private static Theatrehouse afterThreeDays() {
        Theatrehouse x = Houses.richOn();
        x.end();
        x.pass(3);
        return x;
    }

    @Says(promise = 11, value = "Throws `UnsupportedOperationException` if there is an evening on this day")
    static void promise11ThrowsIfThereIsAnEvening() {
        for (int work = 0; work < 2; work++) {
            int of = work;
            Twin.refused(Check.UNSUPPORTED, "planned for today", Houses.RICH, x -> x.plan(of, 0));
            Twin.refused(Check.UNSUPPORTED, "planned for tomorrow", Houses.RICH, x -> x.plan(of, 1));
            Twin.refused(Check.UNSUPPORTED, "on", Houses.RICH_ON, x -> x.plan(of, 0));
            Twin.refused(Check.UNSUPPORTED, "planned, while another one is on", Houses.RICH_ON, x -> x.plan(of, 3));
        }
        Twin.due(Check.UNSUPPORTED, "the last day", Houses.RICH, x -> {
            x.plan(0, 99);
            return x.plan(1, 99);
        });
    }

    @Says(promise = 11, value = "also one that is over")
    static void promise11ThrowsIfThereIsOneThatIsOver() {
        Twin.House over = () -> {
            Theatrehouse x = Houses.richOn();
            x.end();
            return x;
        };
        Twin.refused(Check.UNSUPPORTED, "the same work", over, x -> x.plan(0, 0));
        Twin.refused(Check.UNSUPPORTED, "another work", over, x -> x.plan(1, 0));
        Twin.due(3, "the next free day", over, x -> x.plan(0, 2));
    }

    @Says(promise = 11, value = {"Throws `IndexOutOfBoundsException` if", "Throws `IllegalArgumentException` if",
        "Throws `UnsupportedOperationException` if"})
    static void promise11ListedFirst() {
        for (Twin.House house : new Twin.House[] {Houses.RICH, Houses.RICH_ON}) {
            for (int work : new int[] {MIN, -1, 0, 1, 2, MAX}) {
                for (int day : new int[] {MIN, -1, 0, 1, 2, 3, 99, 100, MAX}) {
                    Object due = work < 0 || work > 1 ? Check.INDEX : day < 0 || day > 99 ? Check.ARGUMENT
                        : day == 0 || day == 1 || day == 3 ? Check.UNSUPPORTED : (Object) 4;
                    Twin.due(due, "plan " + work + " " + day, house, x -> x.plan(work, day));
                }
            }
        }
        Twin.refused(Check.INDEX, "no work, day out of range", Houses.RICH, x -> x.plan(2, 100));
        Twin.refused(Check.INDEX, "no work, an evening on this day", Houses.RICH, x -> x.plan(-1, 0));
        Twin.refused(Check.INDEX, "no work, yesterday's evening", () -> afterThreeDays(), x -> x.plan(2, 0));
        Twin.refused(Check.ARGUMENT, "yesterday's evening", () -> afterThreeDays(), x -> x.plan(1, 1));
    }

    // ---- Promise 12: sell.

    private static Theatrehouse sold(int tickets) {
        Theatrehouse x = onTheDay(0);
        x.plan(0, 0);
        x.plan(1, 99);
        if (tickets > 0) {
            x.sell(0, tickets);
            x.sell(99, tickets);
        }
        return x;
    }

    private static Theatrehouse soldAndOn(int tickets) {
        Theatrehouse x = sold(tickets);
        x.begin();
        return x;
    }

    private static Theatrehouse soldAndOver(int tickets) {
        Theatrehouse x = soldAndOn(tickets);
        x.end();
        return x;
    }

    @Says(promise = 12, value = "Sells tickets, or takes them back")
    static void promise12SellsTicketsOrTakesThemBack() {
        Theatrehouse x = sold(0);
        Check.due(4, "sells", () -> x.sell(0, 4));
        Check.due(40, "for their price", () -> x.balance(0));
        Check.due(1, "takes back", () -> x.sell(0, -3));
        Check.due(10, "with their price", () -> x.balance(0));
        Check.due(9, "for the other one", () -> x.sell(99, 9));
        Check.due(63, "for its price", () -> x.balance(1));
        Check.due(10, "and not for this one", () -> x.balance(0));
        Check.due((float) 10 / (float) 60, "in all", () -> x.soldShare());
    }

    @Says(promise = 12, value = "`day`: the day")
    static void promise12Day() {
        for (int day : new int[] {MIN, -2, -1, 1, 98, 100, 101, MAX}) {
            Twin.refused(Check.ELEMENT, "the day " + day, () -> sold(5), x -> x.sell(day, 1));
            Twin.refused(Check.ELEMENT, "the day " + day + ", given back", () -> sold(5), x -> x.sell(day, -1));
        }
        Twin.due(6, "the first day", () -> sold(5), x -> x.sell(0, 1));
        Twin.due(6, "the last day", () -> sold(5), x -> x.sell(99, 1));
    }

    @Says(promise = 12, value = "`tickets`: how many, less than 0 for those that are given back")
    static void promise12Tickets() {
        for (int before : new int[] {0, 1, 15, 29, 30}) {
            for (int tickets = -31; tickets <= 31; tickets++) {
                int then = before + tickets;
                int count = tickets;
                Object due = count == 0 ? Check.ARGUMENT : then < 0 || then > 30 ? Check.UNSUPPORTED : (Object) then;
                Twin.due(due, tickets + " behind " + before, () -> sold(before), x -> x.sell(0, count));
                Twin.due(due, tickets + " behind " + before + " of the last day", () -> sold(before),
                    x -> x.sell(99, count));
            }
        }
    }

    @Says(promise = 12, value = "Returns how many are sold for this day then")
    static void promise12ReturnsHowManyAreSold() {
        Theatrehouse x = sold(0);
        for (int i = 1; i <= 30; i++) {
            int count = i;
            Check.due(count, "one by one", () -> x.sell(0, 1));
        }
        for (int i = 29; i >= 0; i--) {
            int count = i;
            Check.due(count, "given back one by one", () -> x.sell(0, -1));
        }
        Check.due(30, "all at once", () -> x.sell(0, 30));
        Check.due(0, "all given back at once", () -> x.sell(0, -30));
        Check.due(1, "of another day", () -> x.sell(99, 1));
        Check.due(2, "of this day alone", () -> x.sell(0, 2));
    }

    @Says(promise = 12, value = "Throws `IllegalArgumentException` if the number is 0")
    static void promise12ThrowsIfTheNumberIs0() {
        for (int before : new int[] {0, 1, 30}) {
            Twin.refused(Check.ARGUMENT, "planned", () -> sold(before), x -> x.sell(0, 0));
            Twin.refused(Check.ARGUMENT, "on", () -> soldAndOn(before), x -> x.sell(0, 0));
            Twin.refused(Check.ARGUMENT, "over", () -> soldAndOver(before), x -> x.sell(0, 0));
        }
        Twin.refused(Check.ARGUMENT, "nothing is planned", Houses.NEW, x -> x.sell(0, 0));
    }

    @Says(promise = 12, value = "Throws `NoSuchElementException` if no evening is planned for this day")
    static void promise12ThrowsIfNoneIsPlanned() {
        Twin.refused(Check.ELEMENT, "none at all", Houses.NEW, x -> x.sell(0, 1));
        Twin.refused(Check.ELEMENT, "the day between", Houses.RICH, x -> x.sell(2, 1));
        Twin.refused(Check.ELEMENT, "given back", Houses.RICH, x -> x.sell(2, -1));
        for (int day : new int[] {MIN, -1, 100, MAX}) {
            for (int tickets : new int[] {MIN, -1, 1, MAX}) {
                Twin.refused(Check.ELEMENT, tickets + " for the day " + day, Houses.RICH, x -> x.sell(day, tickets));
            }
        }
    }

    @Says(promise = 12, value = "or it is over")
    static void promise12ThrowsIfItIsOver() {
        for (int tickets : new int[] {MIN, -6, -5, -1, 1, 25, 26, MAX}) {
            Twin.refused(Check.ELEMENT, "ended, " + tickets, () -> soldAndOver(5), x -> x.sell(0, tickets));
            Twin.refused(Check.ELEMENT, "did not begin, " + tickets, () -> {
                Theatrehouse x = sold(5);
                x.pass(1);
                return x;
            }, x -> x.sell(0, tickets));
        }
    }

    @Says(promise = 12, value = "or it is on and tickets would be given back")
    static void promise12ThrowsIfItIsOnAndTicketsWouldBeGivenBack() {
        for (int tickets : new int[] {MIN, -6, -5, -1}) {
            Twin.refused(Check.ELEMENT, "on, " + tickets, () -> soldAndOn(5), x -> x.sell(0, tickets));
        }
        Twin.due(4, "ahead of it", () -> sold(5), x -> x.sell(0, -1));
        Twin.due(6, "on, and sold", () -> soldAndOn(5), x -> x.sell(0, 1));
        Twin.due(4, "of another day", () -> soldAndOn(5), x -> x.sell(99, -1));
    }

    @Says(promise = 12, value = "Throws `UnsupportedOperationException` if more than 30 would be sold")
    static void promise12ThrowsIfMoreThan30WouldBeSold() {
        Twin.due(30, "30 of 0", () -> sold(0), x -> x.sell(0, 30));
        Twin.due(30, "1 of 29", () -> sold(29), x -> x.sell(0, 1));
        for (int tickets : new int[] {31, 32, MAX - 1, MAX}) {
            Twin.refused(Check.UNSUPPORTED, tickets + " of 0", () -> sold(0), x -> x.sell(0, tickets));
        }
        for (int tickets : new int[] {26, 31, MAX - 30, MAX - 5, MAX - 4, MAX}) {
            Twin.refused(Check.UNSUPPORTED, tickets + " of 5", () -> sold(5), x -> x.sell(0, tickets));
            Twin.refused(Check.UNSUPPORTED, tickets + " of 5, on", () -> soldAndOn(5), x -> x.sell(0, tickets));
        }
        for (int tickets : new int[] {1, 2, MAX}) {
            Twin.refused(Check.UNSUPPORTED, tickets + " of 30", () -> sold(30), x -> x.sell(0, tickets));
            Twin.refused(Check.UNSUPPORTED, tickets + " of 30, on", () -> soldAndOn(30), x -> x.sell(0, tickets));
        }
    }

    @Says(promise = 12, value = "or fewer than 0")
    static void promise12ThrowsIfFewerThan0WouldBeSold() {
        Twin.due(0, "5 of 5", () -> sold(5), x -> x.sell(0, -5));
        for (int tickets : new int[] {-1, -2, -30, MIN + 1, MIN}) {
            Twin.refused(Check.UNSUPPORTED, tickets + " of 0", () -> sold(0), x -> x.sell(0, tickets));
        }
        for (int tickets : new int[] {-6, -7, MIN + 5, MIN + 4, MIN}) {
            Twin.refused(Check.UNSUPPORTED, tickets + " of 5", () -> sold(5), x -> x.sell(0, tickets));
        }
        Twin.refused(Check.UNSUPPORTED, "31 of 30", () -> sold(30), x -> x.sell(99, -31));
    }

    @Says(promise = 12, value = {"Throws `IllegalArgumentException` if", "Throws `NoSuchElementException` if",
        "Throws `UnsupportedOperationException` if"})
    static void promise12ListedFirst() {
        for (int is = 0; is < 3; is++) {
            boolean isOn = is == 1;
            boolean isOver = is == 2;
            Twin.House house = isOn ? () -> soldAndOn(5) : isOver ? () -> soldAndOver(5) : () -> sold(5);
            for (int day : new int[] {MIN, -1, 0, 1, 99, 100, MAX}) {
                for (int tickets : new int[] {MIN, -6, -5, -1, 0, 1, 25, 26, MAX}) {
                    boolean isNone = day != 0 && day != 99 || day == 0 && isOver || day == 0 && isOn && tickets < 0;
                    boolean isTooMany = tickets < -5 || tickets > 25;
                    Object due = tickets == 0 ? Check.ARGUMENT : isNone ? Check.ELEMENT
                        : isTooMany ? Check.UNSUPPORTED : (Object) (5 + tickets);
                    Twin.due(due, "sell " + day + " " + tickets + (isOn ? " on" : "") + (isOver ? " over" : ""), house,
                        x -> x.sell(day, tickets));
                }
            }
        }
        Twin.refused(Check.ARGUMENT, "none for no evening", Houses.RICH, x -> x.sell(2, 0));
        Twin.refused(Check.ARGUMENT, "none for no day", Houses.RICH, x -> x.sell(-1, 0));
        Twin.refused(Check.ELEMENT, "too many for no evening", Houses.RICH, x -> x.sell(2, 31));
        Twin.refused(Check.ELEMENT, "too many for one that is over", () -> soldAndOver(5), x -> x.sell(0, 26));
        Twin.refused(Check.ELEMENT, "too many given back for one that is on", () -> soldAndOn(5), x -> x.sell(0, -6));
    }

    // ---- Promise 13: pass.

    @Says(promise = 13, value = "Lets days go by")
    static void promise13LetsDaysGoBy() {
        Theatrehouse x = onTheDay(0);
        Check.due(5, "five days", () -> x.pass(5));
        Check.due(5, "it is that day", () -> x.day());
        x.plan(0, 5);
        Check.due(1, "today's evening can begin", () -> x.begin());
    }

    @Says(promise = 13, value = "evenings that did not begin are over then, with their tickets given back")
    static void promise13EveningsThatDidNotBeginAreOver() {
        Theatrehouse x = onTheDay(0);
        for (int day = 0; day < 5; day++) {
            x.plan(day % 2, day);
            x.sell(day, 10 + day);
        }
        x.pass(1);
        Check.due(260, "of the days 2 and 4", () -> x.balance(0));
        Check.due(168, "of the days 1 and 3", () -> x.balance(1));
        Check.due(Check.ELEMENT, "over", () -> x.sell(0, 1));
        x.begin();
        x.end();
        x.pass(2);
        Check.due(140, "of the day 4", () -> x.balance(0));
        Check.due(168, "of the days 1, which ended, and 3, which is today", () -> x.balance(1));
        Check.due(14, "today's is not over", () -> x.sell(3, 1));
        x.pass(1);
        Check.due(77, "of the day 1, which ended", () -> x.balance(1));
        Check.due(140, "today's is not over", () -> x.balance(0));
        x.pass(1);
        Check.due(0, "none", () -> x.balance(0));
        Check.due(Check.ELEMENT, "the last one is over", () -> x.sell(4, 1));
        Check.due((float) 11 / (float) 30, "what ended counts", () -> x.soldShare());
    }

    @Says(promise = 13, value = "`days`: the number of days, 1 to 30")
    static void promise13DaysAre1To30() {
        for (int days : new int[] {MIN, -30, -1, 0, 31, 32, MAX}) {
            Twin.refused(Check.ARGUMENT, days + " days", Houses.RICH, x -> x.pass(days));
            Twin.refused(Check.ARGUMENT, days + " days, on the day 50", () -> onTheDay(50), x -> x.pass(days));
        }
        for (int days = 1; days <= 30; days++) {
            int count = days;
            Twin.due(days, days + " days", Houses.RICH, x -> x.pass(count));
        }
    }

    @Says(promise = 13, value = "Returns the day then")
    static void promise13ReturnsTheDay() {
        Theatrehouse x = new Theatrehouse();
        for (int day = 1; day <= 99; day++) {
            int then = day;
            Check.due(then, "one more", () -> x.pass(1));
            Check.due(then, "it is that day", () -> x.day());
        }
    }

    @Says(promise = 13, value = "Throws `IllegalArgumentException` if the number is out of range")
    static void promise13ThrowsIfTheNumberIsOutOfRange() {
        Twin.refused(Check.ARGUMENT, "none", Houses.NEW, x -> x.pass(0));
        Twin.refused(Check.ARGUMENT, "31", Houses.NEW, x -> x.pass(31));
        Twin.refused(Check.ARGUMENT, "30 below", Houses.RICH, x -> x.pass(-30));
    }

    @Says(promise = 13, value = "or the day would be above 99")
    static void promise13ThrowsIfTheDayWouldBeAbove99() {
        for (int today = 69; today <= 99; today++) {
            int day = today;
            int left = 99 - today;
            if (left > 0) {
                Twin.due(99, left + " days on the day " + today, () -> onTheDay(day), x -> x.pass(left));
            }
            if (left < 30) {
                Twin.refused(Check.ARGUMENT, left + 1 + " days on the day " + today, () -> onTheDay(day),
                    x -> x.pass(left + 1));
            }
        }
        for (int days : new int[] {MIN, 0, 1, 30, 31, MAX}) {
            Twin.refused(Check.ARGUMENT, days + " days on the last day", () -> onTheDay(99), x -> x.pass(days));
        }
    }

    @Says(promise = 13, value = "Throws `IllegalStateException` if an evening is on")
    static void promise13ThrowsIfAnEveningIsOn() {
        for (int days : new int[] {1, 2, 30}) {
            Twin.refused(Check.STATE, days + " days", Houses.RICH_ON, x -> x.pass(days));
        }
        Theatrehouse x = Houses.richOn();
        x.end();
        Check.due(1, "behind it", () -> x.pass(1));
    }

    @Says(promise = 13, value = {"Throws `IllegalArgumentException` if", "Throws `IllegalStateException` if"})
    static void promise13ListedFirst() {
        for (int today : new int[] {0, 69, 70, 98, 99}) {
            Twin.House on = () -> {
                Theatrehouse x = onTheDay(today);
                Houses.open(x);
                return x;
            };
            for (int days : new int[] {MIN, -1, 0, 1, 29, 30, 31, 99, MAX}) {
                boolean isOut = days < 1 || days > 30 || today + days > 99;
                Twin.due(isOut ? Check.ARGUMENT : Check.STATE, days + " days on the day " + today + ", on", on,
                    x -> x.pass(days));
                Twin.due(isOut ? Check.ARGUMENT : (Object) (today + days), days + " days on the day " + today,
                    () -> onTheDay(today), x -> x.pass(days));
            }
        }
        Twin.refused(Check.ARGUMENT, "out of range, an evening is on", Houses.RICH_ON, x -> x.pass(31));
        Twin.refused(Check.ARGUMENT, "none, an evening is on", Houses.RICH_ON, x -> x.pass(0));
        Twin.refused(Check.ARGUMENT, "above 99, an evening is on", () -> {
            Theatrehouse x = onTheDay(99);
            Houses.open(x);
            return x;
        }, x -> x.pass(1));
    }

    // ---- Promise 14: day.

    @Says(promise = 14, value = {"Returns the day", "Returns the day, from 0"})
    static void promise14ReturnsTheDay() {
        Twin.due(0, "from 0", Houses.NEW, x -> x.day());
        Twin.due(0, "while an evening is on", Houses.RICH_ON, x -> x.day());
        for (int day : new int[] {0, 1, 29, 30, 31, 60, 98, 99}) {
            Twin.due(day, "the day " + day, () -> onTheDay(day), x -> x.day());
            Twin.due(day, "the day " + day + " when an evening has ended", () -> onTheDay(day), x -> {
                Houses.open(x);
                x.end();
                return x.day();
            });
        }
    }

    // ---- Promise 15: begin.

    @Says(promise = 15, value = "Begins the evening of today")
    static void promise15BeginsTheEveningOfToday() {
        Theatrehouse x = onTheDay(0);
        x.plan(1, 1);
        x.plan(0, 0);
        x.begin();
        Check.due(0, "it is on", () -> x.minutes());
        Check.due('-', "with the cue of its work", () -> x.obstacle(0));
        x.end();
        x.pass(1);
        x.begin();
        Check.due(Check.INDEX, "the other one has none", () -> x.obstacle(0));
        for (int day : new int[] {0, 1, 98, 99}) {
            Theatrehouse y = onTheDay(day);
            y.plan(0, day);
            Check.due(1, "on the day " + day, () -> y.begin());
            Check.due(0, "it is on", () -> y.minutes());
        }
    }

    @Says(promise = 15, value = "Returns the number of cues of its work")
    static void promise15ReturnsTheNumberOfCues() {
        for (int count = 0; count <= 9; count++) {
            int cues = count;
            Twin.due(cues, cues + " cues", () -> Houses.withFreeCues(cues), x -> x.begin());
        }
        Theatrehouse x = Houses.rich();
        Check.due(8, "of the first work", () -> x.begin());
        x.end();
        x.pass(1);
        Check.due(3, "of the second work", () -> x.begin());
        x.end();
        x.pass(2);
        x.addCue(0, 'c', 0, 0, 1, 0);
        Check.due(9, "one was added since it was planned", () -> x.begin());
    }

    @Says(promise = 15, value = "Throws `IllegalStateException` if an evening is on")
    static void promise15ThrowsIfAnEveningIsOn() {
        Twin.refused(Check.STATE, "on", Houses.RICH_ON, x -> x.begin());
        Twin.refused(Check.STATE, "on, nothing being done", Houses::onWithoutCues, x -> x.begin());
        Twin.refused(Check.STATE, "on, all being done", () -> {
            Theatrehouse x = Houses.withFreeCues(1);
            x.begin();
            x.perform(0);
            return x;
        }, x -> x.begin());
    }

    @Says(promise = 15, value = "Throws `NoSuchElementException` if none is planned for today")
    static void promise15ThrowsIfNoneIsPlanned() {
        Twin.refused(Check.ELEMENT, "none at all", Houses.NEW, x -> x.begin());
        Twin.refused(Check.ELEMENT, "only for tomorrow", () -> {
            Theatrehouse x = onTheDay(5);
            x.plan(0, 6);
            return x;
        }, x -> x.begin());
        Twin.refused(Check.ELEMENT, "only for yesterday", () -> {
            Theatrehouse x = onTheDay(5);
            x.plan(0, 5);
            x.pass(1);
            return x;
        }, x -> x.begin());
        Twin.refused(Check.ELEMENT, "on the last day", () -> onTheDay(99), x -> x.begin());
    }

    @Says(promise = 15, value = "or it is over")
    static void promise15ThrowsIfItIsOver() {
        Twin.refused(Check.ELEMENT, "ended", () -> soldAndOver(5), x -> x.begin());
        Twin.refused(Check.ELEMENT, "ended, cues being left", () -> {
            Theatrehouse x = Houses.richOn();
            x.end();
            return x;
        }, x -> x.begin());
    }

    @Says(promise = 15, value = {"Throws `IllegalStateException` if", "Throws `NoSuchElementException` if"})
    static void promise15ListedFirst() {
        Theatrehouse x = Houses.rich();
        Check.due(8, "neither", () -> x.begin());
        Check.due(Check.STATE, "the one of today is on, and none is planned besides", () -> x.begin());
        x.end();
        Check.due(Check.ELEMENT, "it is over, and none is on", () -> x.begin());
    }
}
