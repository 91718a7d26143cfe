/** Promise 5: exclude. */
public final class ExcludeTest {
    public static void main(String[] args) {
        leavesDaysOut();
        refusesDays();
        refusesTheThirteenth();
        countsForCountAndForTwoHundred();
        reachesBusyAndClash();
        Checks.finish("ExcludeTest");
    }

    private static void leavesDaysOut() {
        RecurrenceBook book = new RecurrenceBook();
        Checks.event(book, "FREQ=DAILY;COUNT=5", 10);
        Checks.event(book, "FREQ=DAILY;COUNT=5", 10);
        Checks.due("exclude the middle", book.exclude(0, 12), true);
        Checks.daysDue("without 12", book, 0, 10, 11, 13, 14);
        Checks.due("exclude the first", book.exclude(0, 10), true);
        Checks.due("exclude the last", book.exclude(0, 14), true);
        Checks.daysDue("without 10, 12, 14", book, 0, 11, 13);
        Checks.due("exclude", book.exclude(0, 11), true);
        Checks.due("exclude", book.exclude(0, 13), true);
        Checks.daysDue("without any", book, 0);
        Checks.daysDue("the other event", book, 1, 10, 11, 12, 13, 14);
        Checks.throwsElement("day(0, 0)", () -> book.day(0, 0));
    }

    private static void refusesDays() {
        RecurrenceBook book = new RecurrenceBook();
        Checks.event(book, "FREQ=WEEKLY;COUNT=3", 7);
        Checks.due("a day before", book.exclude(0, 0), false);
        Checks.due("a day between", book.exclude(0, 8), false);
        Checks.due("a day behind", book.exclude(0, 28), false);
        Checks.due("a day below 0", book.exclude(0, -1), false);
        Checks.due("the lowest int", book.exclude(0, Integer.MIN_VALUE), false);
        Checks.due("the highest int", book.exclude(0, Integer.MAX_VALUE), false);
        Checks.due("a day", book.exclude(0, 14), true);
        Checks.due("the day again", book.exclude(0, 14), false);
        Checks.daysDue("the rest", book, 0, 7, 21);
        Checks.throwsElement("exclude(1, 7)", () -> book.exclude(1, 7));
        Checks.throwsElement("exclude(-1, 7)", () -> book.exclude(-1, 7));
        Checks.throwsElement("exclude(8, 7)", () -> book.exclude(8, 7));
    }

    private static void refusesTheThirteenth() {
        RecurrenceBook book = new RecurrenceBook();
        Checks.event(book, "FREQ=DAILY;COUNT=20", 0);
        Checks.event(book, "FREQ=DAILY;COUNT=20", 0);
        for (int day = 0; day < 12; day++) {
            Checks.due("exclude number " + day, book.exclude(0, day), true);
        }
        Checks.due("exclude number 12", book.exclude(0, 12), false);
        Checks.due("times", book.times(0), 8);
        Checks.due("the other event's first", book.exclude(1, 12), true);
    }

    private static void countsForCountAndForTwoHundred() {
        RecurrenceBook book = new RecurrenceBook();
        Checks.event(book, "FREQ=DAILY", 0);
        Checks.due("exclude", book.exclude(0, 100), true);
        Checks.due("times", book.times(0), 199);
        Checks.due("the last day", book.day(0, 198), 199);
        Checks.throwsElement("day(0, 199)", () -> book.day(0, 199));
    }

    private static void reachesBusyAndClash() {
        RecurrenceBook book = new RecurrenceBook();
        Checks.event(book, "FREQ=DAILY;COUNT=3", 0, 60, 30);
        Checks.event(book, "FREQ=DAILY;COUNT=3", 0, 70, 30);
        Checks.due("clash", book.clash(0, 1), 70);
        book.exclude(1, 0);
        Checks.due("clash", book.clash(0, 1), 1510);
        book.exclude(0, 0);
        Checks.spansDue("busy", book, book.busy(0, 5000), 1500, 1540, 2940, 2980);
        Checks.due("moment", book.moment(0, 0), 1500);
    }
}
