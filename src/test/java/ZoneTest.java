/** Promise 3: zone, and what the terms say of it. */
public final class ZoneTest {
    public static void main(String[] args) {
        refusesWrongArguments();
        keepsTheOldZoneWhenItRefuses();
        takesTheEdges();
        changesEventsThatAreThere();
        findsTheNthSunday();
        carriesSummerOverTheTurnOfTheYear();
        Checks.finish("ZoneTest");
    }

    private static void refuses(RecurrenceBook book, int... a) {
        String call = "zone(" + a[0] + ", " + a[1] + ", " + a[2] + ", " + a[3] + ", " + a[4] + ", " + a[5] + ")";
        Checks.throwsArgument(call, () -> book.zone(a[0], a[1], a[2], a[3], a[4], a[5]));
    }

    private static void refusesWrongArguments() {
        RecurrenceBook book = new RecurrenceBook();
        refuses(book, -841, 0, 3, 5, 10, 5);
        refuses(book, 841, 841, 3, 5, 10, 5);
        refuses(book, 0, 841, 3, 5, 10, 5);
        refuses(book, -841, -841, 3, 5, 10, 5);
        refuses(book, 60, 59, 3, 5, 10, 5);
        refuses(book, 0, 0, 0, 5, 10, 5);
        refuses(book, 0, 0, 3, 5, 13, 5);
        refuses(book, 0, 0, 13, 5, 14, 5);
        refuses(book, 0, 0, -1, 5, 0, 5);
        refuses(book, 0, 0, 3, 5, 3, 5);
        refuses(book, 0, 0, 3, 1, 3, 5);
        refuses(book, 0, 0, 10, 5, 3, 5);
        refuses(book, 0, 0, 3, 0, 10, 5);
        refuses(book, 0, 0, 3, 6, 10, 5);
        refuses(book, 0, 0, 3, 5, 10, 0);
        refuses(book, 0, 0, 3, 5, 10, 6);
        refuses(book, Integer.MIN_VALUE, Integer.MAX_VALUE, 3, 5, 10, 5);
    }

    private static void keepsTheOldZoneWhenItRefuses() {
        RecurrenceBook book = new RecurrenceBook();
        book.zone(60, 120, 3, 5, 10, 5);
        refuses(book, 0, 30, 3, 5, 10, 6);
        Checks.due("local in winter", book.local(0), 60);
        Checks.due("local in summer", book.local(1440 * 180), 1440 * 180 + 120);
    }

    private static void takesTheEdges() {
        RecurrenceBook book = new RecurrenceBook();
        book.zone(-840, 840, 1, 1, 12, 5);
        Checks.due("local before summer", book.local(0), -840);
        Checks.due("local in summer", book.local(1440 * 180), 1440 * 180 + 840);
        book.zone(840, 840, 11, 5, 12, 1);
        Checks.due("local with the same offsets", book.local(5), 845);
        book.zone(-840, -840, 1, 5, 2, 1);
        Checks.due("local with low offsets", book.local(5), -835);
    }

    private static void changesEventsThatAreThere() {
        RecurrenceBook book = new RecurrenceBook();
        Checks.event(book, "FREQ=MONTHLY;COUNT=12", 0, 600, 60);
        book.zone(60, 120, 3, 5, 10, 5);
        Checks.due("moment in winter", book.moment(0, 0), 540);
        Checks.due("moment in summer", book.moment(0, 6), 1440 * book.day(0, 6) + 480);
        Checks.spansDue("after zone", book, book.busy(0, 1440), 540, 600);
        Checks.due("clash after zone", book.clash(0, 0), 540);
        Checks.due("day after zone", book.day(0, 0), 0);
        book.zone(-300, -240, 3, 2, 11, 1);
        Checks.due("moment in another zone", book.moment(0, 0), 900);
    }

    /** The moments right before and at the begin, and right before and at the end. */
    private static void summerDue(RecurrenceBook book, int begin, int end) {
        Checks.due("local before the begin", book.local(begin - 1), begin - 1);
        Checks.due("local at the begin", book.local(begin), begin + 60);
        Checks.due("local before the end", book.local(end - 1), end - 1 + 60);
        Checks.due("local at the end", book.local(end), end);
    }

    private static void findsTheNthSunday() {
        RecurrenceBook book = new RecurrenceBook();
        int[] months = {2, 4, 7, 10};
        for (int n = 1; n <= 5; n++) {
            for (int year = 2000; year < 2100; year++) {
                int begin = months[n % 2];
                int end = months[2 + n % 2];
                book.zone(0, 60, begin, n, end, 6 - n);
                summerDue(book, 1440 * Model.sunday(year, begin, n) + 120, 1440 * Model.sunday(year, end, 6 - n) + 120);
            }
        }
    }

    private static void carriesSummerOverTheTurnOfTheYear() {
        RecurrenceBook book = new RecurrenceBook();
        // 1 January 2006 is a Sunday: with a high standard offset its summer begins in the old year's moments.
        book.zone(780, 840, 1, 1, 6, 1);
        int begin = 1440 * book.date(2006, 1, 1) + 120 - 780;
        Checks.due("local before the early begin", book.local(begin - 1), begin - 1 + 780);
        Checks.due("local at the early begin", book.local(begin), begin + 840);
        // 31 December 2006 is a Sunday: even with low offsets its summer ends before the new year's moments.
        book.zone(-840, -780, 6, 1, 12, 5);
        int end = 1440 * book.date(2006, 12, 31) + 180 + 780;
        Checks.due("local before the end", book.local(end - 1), end - 1 - 780);
        Checks.due("local at the end", book.local(end), end - 840);
        book.zone(-840, -840, 6, 1, 12, 5);
        Checks.due("local of the last moments", book.local(1440 * 36525), 1440 * 36525 - 840);
    }
}
