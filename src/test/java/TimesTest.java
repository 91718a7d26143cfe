/** Promises 6 to 8: times, day and moment. */
public final class TimesTest {
    public static void main(String[] args) {
        countsTimes();
        answersDays();
        answersMoments();
        answersMomentsAtTheChanges();
        keepsTheOrderOfDays();
        Checks.finish("TimesTest");
    }

    private static void countsTimes() {
        RecurrenceBook book = new RecurrenceBook();
        Checks.event(book, "FREQ=DAILY;COUNT=17", 0);
        Checks.event(book, "FREQ=DAILY;UNTIL=20000101", 1);
        Checks.due("times(0)", book.times(0), 17);
        Checks.due("times of none", book.times(1), 0);
        int[] none = {2, 8, -1, Integer.MIN_VALUE, Integer.MAX_VALUE};
        for (int event : none) {
            Checks.throwsElement("times(" + event + ")", () -> book.times(event));
        }
    }

    private static void answersDays() {
        RecurrenceBook book = new RecurrenceBook();
        Checks.event(book, "FREQ=WEEKLY;COUNT=4", 3);
        Checks.daysDue("days", book, 0, 3, 10, 17, 24);
        int[][] none = {{0, 4}, {0, -1}, {0, Integer.MAX_VALUE}, {0, Integer.MIN_VALUE}, {1, 0}, {-1, 0}, {9, 0}};
        for (int[] a : none) {
            Checks.throwsElement("day(" + a[0] + ", " + a[1] + ")", () -> book.day(a[0], a[1]));
            Checks.throwsElement("moment(" + a[0] + ", " + a[1] + ")", () -> book.moment(a[0], a[1]));
        }
    }

    private static void answersMoments() {
        RecurrenceBook book = new RecurrenceBook();
        Checks.event(book, "FREQ=WEEKLY;COUNT=2", 3, 1439, 1);
        Checks.due("moment(0, 0)", book.moment(0, 0), 3 * 1440 + 1439);
        Checks.due("moment(0, 1)", book.moment(0, 1), 10 * 1440 + 1439);
        book.event(0, 0, 1);
        book.zone(840, 840, 3, 5, 10, 5);
        Checks.due("a moment below 0", book.moment(1, 0), -840);
        book.event(36524, 1439, 2880);
        book.zone(-840, -840, 3, 5, 10, 5);
        Checks.due("the last moment", book.moment(2, 0), 1440 * 36525 - 1 + 840);
    }

    private static void answersMomentsAtTheChanges() {
        RecurrenceBook book = new RecurrenceBook();
        book.zone(60, 120, 3, 5, 10, 5);
        int[][] due = {
            // local times of 26 March 2000; from 02:00 to 02:59 they never come
            {85, 119, 59}, {85, 120, 60}, {85, 179, 119}, {85, 180, 60}, {85, 181, 61},
            // local times of 29 October 2000; from 02:00 to 02:59 they come twice
            {302, 119, -1}, {302, 120, 0}, {302, 179, 59}, {302, 180, 120}, {302, 181, 121}};
        for (int i = 0; i < due.length; i++) {
            if (i == 8) {
                book = new RecurrenceBook();
                book.zone(60, 120, 3, 5, 10, 5);
            }
            int event = book.event(due[i][0], due[i][1], 1);
            String call = "moment of " + due[i][0] + ", " + due[i][1];
            Checks.due(call, book.moment(event, 0), 1440 * due[i][0] + due[i][2]);
        }
    }

    private static void keepsTheOrderOfDays() {
        RecurrenceBook book = new RecurrenceBook();
        Checks.event(book, "FREQ=DAILY;COUNT=3", 84, 600, 1);
        book.zone(-840, 840, 3, 5, 10, 5);
        Checks.daysDue("days", book, 0, 84, 85, 86);
        Checks.due("moment of day 84", book.moment(0, 0), 84 * 1440 + 600 + 840);
        Checks.due("moment of day 85", book.moment(0, 1), 85 * 1440 + 600 + 840);
        Checks.due("moment of day 86, before that of day 85", book.moment(0, 2), 86 * 1440 + 600 - 840);
    }
}
