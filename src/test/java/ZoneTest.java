/** Promise 3: zone; what the terms say of the zone has SummerTest. */
public final class ZoneTest {
    public static void main(String[] args) {
        refusesOffsets();
        refusesSummerBelowStandard();
        refusesMonths();
        refusesBeginNotBeforeEnd();
        refusesNumbersOfTheSunday();
        takesEveryPairOfMonths();
        setsTheZoneAnew();
        changesEventsThatAreThere();
        changesEventsThatComeLater();
        leavesSpansAndTypedAsTheyWere();
        Checks.finish("ZoneTest");
    }

    private static String call(int[] a) {
        return "zone(" + a[0] + ", " + a[1] + ", " + a[2] + ", " + a[3] + ", " + a[4] + ", " + a[5] + ")";
    }

    private static void set(RecurrenceBook book, int[] a) {
        book.zone(a[0], a[1], a[2], a[3], a[4], a[5]);
    }

    /** Throws, and leaves the zone and all else as it was. */
    private static void refuses(int... a) {
        Untouched.by(call(a), Checks.ARGUMENT, book -> set(book, a));
    }

    /** Sets the offsets: STANDARD holds before the first summer, SUMMER the minute in which the last one ends. */
    private static void takes(int... a) {
        RecurrenceBook book = new RecurrenceBook();
        Checks.due(call(a) + " (kind of exception)", Checks.thrown(() -> set(book, a)), Checks.NOTHING);
        int begin = 1440 * Model.sunday(2000, a[2], a[3]) + 120 - a[0];
        int end = 1440 * Model.sunday(2099, a[4], a[5]) + 180 - a[1];
        Checks.due(call(a) + ": local before summer", book.local(begin - 1), begin - 1 + a[0]);
        Checks.due(call(a) + ": local when summer begins", book.local(begin), begin + a[1]);
        Checks.due(call(a) + ": local before summer ends", book.local(end - 1), end - 1 + a[1]);
        Checks.due(call(a) + ": local behind summer", book.local(end), end + a[0]);
    }

    /** "when an offset is not -840 .. 840" */
    private static void refusesOffsets() {
        takes(-840, 0, 3, 5, 10, 5);
        refuses(-841, 0, 3, 5, 10, 5);
        takes(840, 840, 3, 5, 10, 5);
        refuses(841, 841, 3, 5, 10, 5);
        takes(0, 840, 3, 5, 10, 5);
        refuses(0, 841, 3, 5, 10, 5);
        takes(-840, -840, 3, 5, 10, 5);
        refuses(-841, -841, 3, 5, 10, 5);
        refuses(841, 840, 3, 5, 10, 5);
        takes(-840, 840, 3, 5, 10, 5);
        refuses(-841, 841, 3, 5, 10, 5);
        refuses(Integer.MIN_VALUE, Integer.MAX_VALUE, 3, 5, 10, 5);
        refuses(Integer.MIN_VALUE, 0, 3, 5, 10, 5);
        refuses(0, Integer.MAX_VALUE, 3, 5, 10, 5);
    }

    /** "SUMMER below STANDARD" */
    private static void refusesSummerBelowStandard() {
        takes(60, 61, 3, 5, 10, 5);
        takes(60, 60, 3, 5, 10, 5);
        refuses(60, 59, 3, 5, 10, 5);
        takes(0, 0, 3, 5, 10, 5);
        refuses(0, -1, 3, 5, 10, 5);
        refuses(840, -840, 3, 5, 10, 5);
        refuses(-839, -840, 3, 5, 10, 5);
    }

    /** "a month not 1 .. 12" */
    private static void refusesMonths() {
        takes(0, 60, 1, 5, 10, 5);
        refuses(0, 60, 0, 5, 10, 5);
        refuses(0, 60, -1, 5, 10, 5);
        takes(0, 60, 3, 5, 12, 5);
        refuses(0, 60, 3, 5, 13, 5);
        refuses(0, 60, 13, 5, 14, 5);
        refuses(0, 60, -1, 5, 0, 5);
        refuses(0, 60, 0, 5, 13, 5);
        refuses(0, 60, 12, 5, 13, 5);
        refuses(0, 60, 0, 5, 1, 5);
        refuses(0, 60, Integer.MIN_VALUE, 5, 10, 5);
        refuses(0, 60, 3, 5, Integer.MAX_VALUE, 5);
    }

    /** "begin not before end" */
    private static void refusesBeginNotBeforeEnd() {
        takes(0, 60, 3, 5, 4, 5);
        refuses(0, 60, 4, 5, 4, 5);
        refuses(0, 60, 4, 1, 4, 5);
        refuses(0, 60, 5, 5, 4, 5);
        takes(0, 60, 1, 1, 2, 1);
        refuses(0, 60, 1, 1, 1, 5);
        refuses(0, 60, 12, 1, 12, 5);
        refuses(0, 60, 12, 1, 1, 1);
    }

    /** "or an n not 1 .. 5" */
    private static void refusesNumbersOfTheSunday() {
        takes(0, 60, 3, 1, 10, 5);
        refuses(0, 60, 3, 0, 10, 5);
        takes(0, 60, 3, 5, 10, 1);
        refuses(0, 60, 3, 6, 10, 5);
        refuses(0, 60, 3, 5, 10, 0);
        refuses(0, 60, 3, 5, 10, 6);
        refuses(0, 60, 3, -1, 10, 5);
        refuses(0, 60, 3, 5, 10, -1);
        refuses(0, 60, 3, Integer.MAX_VALUE, 10, 5);
        refuses(0, 60, 3, 5, 10, Integer.MIN_VALUE);
    }

    private static void takesEveryPairOfMonths() {
        for (int begin = 1; begin <= 12; begin++) {
            for (int end = 1; end <= 12; end++) {
                if (begin < end) {
                    takes(-300, 600, begin, 5, end, 1);
                    takes(840, 840, begin, 1, end, 5);
                } else {
                    RecurrenceBook book = new RecurrenceBook();
                    int[] wrong = {0, 60, begin, 1, end, 5};
                    Checks.throwsArgument(call(wrong), () -> set(book, wrong));
                }
            }
        }
    }

    private static void setsTheZoneAnew() {
        RecurrenceBook book = new RecurrenceBook();
        book.zone(60, 120, 3, 5, 10, 5);
        book.zone(-300, -240, 6, 1, 7, 1);
        Checks.due("local in the old summer", book.local(1440 * 120), 1440 * 120 - 300);
        Checks.due("local in the new summer", book.local(1440 * 160), 1440 * 160 - 240);
        book.zone(0, 0, 3, 5, 10, 5);
        Checks.due("local as in a new object", book.local(1440 * 160), 1440 * 160);
    }

    /** "for all events, those there, too" */
    private static void changesEventsThatAreThere() {
        RecurrenceBook book = new RecurrenceBook();
        Checks.event(book, "FREQ=MONTHLY;COUNT=12", 0, 600, 60);
        for (int i = 1; i < 8; i++) {
            book.event(20 + i, 600, 60);
        }
        book.zone(60, 120, 3, 5, 10, 5);
        Checks.due("moment in winter", book.moment(0, 0), 540);
        Checks.due("moment in summer", book.moment(0, 6), 1440 * book.day(0, 6) + 480);
        Checks.spansDue("after zone", book, book.busy(0, 1440), 540, 600);
        Checks.due("clash after zone", book.clash(0, 0), 540);
        Checks.due("day after zone", book.day(0, 0), 0);
        for (int i = 1; i < 8; i++) {
            Checks.due("moment of event " + i, book.moment(i, 0), 1440 * (20 + i) + 540);
            Checks.due("clash of event " + i, book.clash(i, i), 1440 * (20 + i) + 540);
        }
        Checks.due("busy of all", book.busy(0, 1440 * 28), 8);
        Checks.due("span of the last event", book.span(7, false), 1440 * 27 + 540);
        book.zone(-300, -240, 3, 2, 11, 1);
        Checks.due("moment in another zone", book.moment(0, 0), 900);
    }

    private static void changesEventsThatComeLater() {
        RecurrenceBook book = new RecurrenceBook();
        book.zone(60, 120, 3, 5, 10, 5);
        book.event(0, 600, 60);
        book.event(180, 600, 60);
        Checks.due("moment in winter", book.moment(0, 0), 540);
        Checks.due("moment in summer", book.moment(1, 0), 1440 * 180 + 480);
        Checks.spansDue("in winter", book, book.busy(0, 1440), 540, 600);
        Checks.due("clash in summer", book.clash(1, 1), 1440 * 180 + 480);
    }

    private static void leavesSpansAndTypedAsTheyWere() {
        RecurrenceBook book = Untouched.book();
        int begin = book.span(0, false);
        int end = book.span(2, true);
        book.zone(-60, 0, 3, 5, 10, 5);
        Checks.due("begin of the first span", book.span(0, false), begin);
        Checks.due("end of the last span", book.span(2, true), end);
        Checks.throwsElement("span(3, false)", () -> book.span(3, false));
        Checks.daysDue("what was typed", book, book.event(9, 0, 1), 9, 10, 11);
    }
}
