/** Promises 6 to 8: times, day and moment. */
public final class TimesTest {
    public static void main(String[] args) {
        countsTimes();
        countsNone();
        refusesEventsThatAreNotThere();
        answersDays();
        refusesTimesThatAreNotThere();
        refusesTimesOfAnEventWithNone();
        losesTheLastTimeWithADay();
        answersMoments();
        answersMomentsInThePresentZone();
        keepsTheOrderOfDays();
        Checks.finish("TimesTest");
    }

    /** "How many times an event has": 1 to 200 */
    private static void countsTimes() {
        int[] counts = {1, 2, 17, 199, 200};
        RecurrenceBook book = new RecurrenceBook();
        for (int i = 0; i < counts.length; i++) {
            Checks.event(book, "FREQ=DAILY;COUNT=" + counts[i], 0);
            Checks.due("times(" + i + ")", book.times(i), counts[i]);
        }
        Checks.event(book, "FREQ=DAILY", 0);
        Checks.due("times of a rule without COUNT", book.times(5), 200);
    }

    /** "(perhaps 0)": no day of the rule, and none that is left. */
    private static void countsNone() {
        RecurrenceBook book = new RecurrenceBook();
        Checks.event(book, "FREQ=DAILY;UNTIL=20000101", 1);
        Checks.due("times of none", book.times(0), 0);
        book.event(7, 0, 1);
        Checks.due("times of one", book.times(1), 1);
        book.exclude(1, 7);
        Checks.due("times of one that is excluded", book.times(1), 0);
    }

    /** "Throws NoSuchElementException when there is no such event." */
    private static void refusesEventsThatAreNotThere() {
        int[] none = {-1, 3, 7, 8, Integer.MIN_VALUE, Integer.MAX_VALUE};
        for (int event : none) {
            Untouched.by("times(" + event + ")", Checks.ELEMENT, book -> book.times(event));
            Untouched.by("day(" + event + ", 0)", Checks.ELEMENT, book -> book.day(event, 0));
            Untouched.by("moment(" + event + ", 0)", Checks.ELEMENT, book -> book.moment(event, 0));
        }
        RecurrenceBook book = new RecurrenceBook();
        for (int event = 0; event < 8; event++) {
            int number = event;
            Checks.throwsElement("times(" + event + ") before it is there", () -> book.times(number));
            Checks.throwsElement("day(" + event + ", 0) before it is there", () -> book.day(number, 0));
            Checks.throwsElement("moment(" + event + ", 0) before it is there", () -> book.moment(number, 0));
            book.event(event, 0, 1);
            Checks.due("times(" + event + ")", book.times(event), 1);
            Checks.due("day(" + event + ", 0)", book.day(event, 0), event);
            Checks.due("moment(" + event + ", 0)", book.moment(event, 0), 1440 * event);
        }
    }

    private static void answersDays() {
        RecurrenceBook book = new RecurrenceBook();
        Checks.event(book, "FREQ=WEEKLY;COUNT=4", 3);
        Checks.daysDue("days", book, 0, 3, 10, 17, 24);
        Checks.event(book, "FREQ=DAILY", 0);
        Checks.due("the first of 200", book.day(1, 0), 0);
        Checks.due("the last of 200", book.day(1, 199), 199);
        Checks.due("the moment of the last of 200", book.moment(1, 199), 1440 * 199);
        Checks.throwsElement("day(1, 200)", () -> book.day(1, 200));
        Checks.throwsElement("moment(1, 200)", () -> book.moment(1, 200));
    }

    /** "Throws NoSuchElementException when there is no such time.": event 0 has 29 of them, 0 to 28. */
    private static void refusesTimesThatAreNotThere() {
        RecurrenceBook book = Untouched.book();
        Checks.due("day(0, 0)", book.day(0, 0), 7);
        Checks.due("day(0, 28)", book.day(0, 28), 7 + 7 * 29);
        Checks.due("moment(0, 0)", book.moment(0, 0), 7 * 1440 + 540);
        Checks.due("moment(0, 28)", book.moment(0, 28), (7 + 7 * 29) * 1440 + 480);
        int[] none = {-1, 29, 30, 199, 200, 201, Integer.MIN_VALUE, Integer.MAX_VALUE};
        for (int k : none) {
            Untouched.by("day(0, " + k + ")", Checks.ELEMENT, same -> same.day(0, k));
            Untouched.by("moment(0, " + k + ")", Checks.ELEMENT, same -> same.moment(0, k));
        }
    }

    private static void refusesTimesOfAnEventWithNone() {
        int[] none = {-1, 0, 1};
        for (int k : none) {
            Untouched.by("day(2, " + k + ")", Checks.ELEMENT, same -> same.day(2, k));
            Untouched.by("moment(2, " + k + ")", Checks.ELEMENT, same -> same.moment(2, k));
        }
    }

    private static void losesTheLastTimeWithADay() {
        RecurrenceBook book = new RecurrenceBook();
        Checks.event(book, "FREQ=DAILY;COUNT=3", 0);
        Checks.due("day(0, 2)", book.day(0, 2), 2);
        Checks.due("moment(0, 2)", book.moment(0, 2), 2880);
        book.exclude(0, 0);
        Checks.due("day(0, 1)", book.day(0, 1), 2);
        Checks.throwsElement("day(0, 2)", () -> book.day(0, 2));
        Checks.throwsElement("moment(0, 2)", () -> book.moment(0, 2));
    }

    private static void answersMoments() {
        RecurrenceBook book = new RecurrenceBook();
        Checks.event(book, "FREQ=WEEKLY;COUNT=2", 3, 1439, 1);
        Checks.due("moment(0, 0)", book.moment(0, 0), 3 * 1440 + 1439);
        Checks.due("moment(0, 1)", book.moment(0, 1), 10 * 1440 + 1439);
        book.event(0, 0, 1);
        Checks.due("the first moment", book.moment(1, 0), 0);
        book.event(36524, 1439, 2880);
        Checks.due("the last moment", book.moment(2, 0), 1440 * 36525 - 1);
    }

    /** "in the present zone"; days stay as they are. */
    private static void answersMomentsInThePresentZone() {
        RecurrenceBook book = new RecurrenceBook();
        book.event(0, 0, 1);
        book.event(180, 600, 1);
        book.event(36524, 1439, 2880);
        book.zone(840, 840, 3, 5, 10, 5);
        Checks.due("a moment below 0", book.moment(0, 0), -840);
        book.zone(-840, -840, 3, 5, 10, 5);
        Checks.due("a moment behind the last day", book.moment(2, 0), 1440 * 36525 - 1 + 840);
        book.zone(60, 120, 3, 5, 10, 5);
        Checks.due("a moment in winter", book.moment(0, 0), -60);
        Checks.due("a moment in summer", book.moment(1, 0), 1440 * 180 + 480);
        book.zone(60, 120, 8, 5, 10, 5);
        Checks.due("a moment in summer no more", book.moment(1, 0), 1440 * 180 + 540);
        for (int event = 0; event < 3; event++) {
            Checks.daysDue("event " + event, book, event, new int[] {0, 180, 36524}[event]);
        }
    }

    /** Times are in the order of days, even where summer makes a later one begin earlier. */
    private static void keepsTheOrderOfDays() {
        RecurrenceBook book = new RecurrenceBook();
        Checks.event(book, "FREQ=DAILY;COUNT=3", 84, 600, 1);
        book.zone(-840, 840, 3, 5, 10, 5);
        Checks.daysDue("days", book, 0, 84, 85, 86);
        Checks.due("moment of day 84", book.moment(0, 0), 84 * 1440 + 600 + 840);
        Checks.due("moment of day 85", book.moment(0, 1), 85 * 1440 + 600 + 840);
        Checks.due("moment of day 86, before that of day 85", book.moment(0, 2), 86 * 1440 + 600 - 840);
    }
}
