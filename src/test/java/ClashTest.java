/** Promise 13: clash. */
public final class ClashTest {
    public static void main(String[] args) {
        findsTheFirstMoment();
        findsNone();
        takesOneEventTwice();
        followsTheZone();
        refusesEvents();
        Checks.finish("ClashTest");
    }

    private static void findsTheFirstMoment() {
        RecurrenceBook book = new RecurrenceBook();
        Checks.event(book, "FREQ=WEEKLY;COUNT=10", 0, 600, 60);
        Checks.event(book, "FREQ=DAILY;COUNT=10", 5, 630, 60);
        Checks.due("clash(0, 1)", book.clash(0, 1), 7 * 1440 + 630);
        Checks.due("clash(1, 0)", book.clash(1, 0), 7 * 1440 + 630);
        book.event(0, 0, 2880);
        Checks.due("one within a long one", book.clash(2, 0), 600);
        Checks.due("the other way", book.clash(0, 2), 600);
        book.event(0, 659, 1);
        Checks.due("the last minute", book.clash(0, 3), 659);
        book.event(0, 600, 1);
        Checks.due("the first minute", book.clash(4, 0), 600);
    }

    private static void findsNone() {
        RecurrenceBook book = new RecurrenceBook();
        book.event(0, 600, 60);
        book.event(0, 660, 60);
        Checks.event(book, "FREQ=DAILY;UNTIL=20000101", 5);
        Checks.due("touching", book.clash(0, 1), -1);
        Checks.due("touching, the other way", book.clash(1, 0), -1);
        Checks.due("with an event of no times", book.clash(0, 2), -1);
        Checks.due("of an event of no times", book.clash(2, 2), -1);
        Checks.event(book, "FREQ=DAILY;INTERVAL=2", 0, 0, 1440);
        Checks.event(book, "FREQ=DAILY;INTERVAL=2", 1, 0, 1440);
        Checks.due("in turn", book.clash(3, 4), -1);
    }

    private static void takesOneEventTwice() {
        RecurrenceBook book = new RecurrenceBook();
        Checks.event(book, "FREQ=DAILY;COUNT=2", 85, 600, 60);
        Checks.due("clash(0, 0)", book.clash(0, 0), 85 * 1440 + 600);
        book.zone(-840, 840, 3, 5, 10, 5);
        Checks.due("clash(0, 0), a later day first", book.clash(0, 0), 86 * 1440 + 600 - 840);
        book.exclude(0, 86);
        Checks.due("clash(0, 0) without it", book.clash(0, 0), 85 * 1440 + 600 + 840);
        book.exclude(0, 85);
        Checks.due("clash(0, 0) without any", book.clash(0, 0), -1);
    }

    private static void followsTheZone() {
        RecurrenceBook book = new RecurrenceBook();
        book.event(0, 0, 10);
        book.event(0, 5, 10);
        Checks.due("clash", book.clash(0, 1), 5);
        book.zone(840, 840, 3, 5, 10, 5);
        Checks.due("clash below 0", book.clash(0, 1), -835);
        // These two meet only where summer begins: what never comes falls behind 03:00.
        book.event(85, 150, 30);
        book.event(85, 185, 30);
        book.zone(60, 120, 3, 5, 10, 5);
        Checks.due("clash over the begin of summer", book.clash(2, 3), 85 * 1440 + 90);
        book.zone(60, 60, 3, 5, 10, 5);
        Checks.due("clash without summer", book.clash(2, 3), -1);
    }

    private static void refusesEvents() {
        RecurrenceBook book = new RecurrenceBook();
        Checks.throwsElement("clash(0, 0) of none", () -> book.clash(0, 0));
        book.event(0, 0, 1);
        int[] none = {1, 8, -1, Integer.MIN_VALUE, Integer.MAX_VALUE};
        for (int event : none) {
            Checks.throwsElement("clash(0, " + event + ")", () -> book.clash(0, event));
            Checks.throwsElement("clash(" + event + ", 0)", () -> book.clash(event, 0));
            Checks.throwsElement("clash(" + event + ", " + event + ")", () -> book.clash(event, event));
        }
    }
}
