/** The terms of the zone: its two changes, moments in summer, and the moment of a local time. */
public final class SummerTest {
    public static void main(String[] args) {
        findsTheNthSundayOfEveryYear();
        takesTheLastSundayForFive();
        beginsAtTwoLessStandardAndEndsAtThreeLessSummer();
        isThereInTheseYearsAlone();
        carriesABeginIntoTheYearBefore();
        endsOnTheLastDayOfAYear();
        findsTheMomentOfALocalTimeThatNeverComes();
        findsTheMomentOfALocalTimeThatComesTwice();
        findsTheMomentOfALocalTimeWithWideOffsets();
        findsMomentsBelowZero();
        findsMomentsBehindTheLastDay();
        knowsNoSummerWhenBothOffsetsAreOne();
        Checks.finish("SummerTest");
    }

    /** The moments right before and at the begin, and right before and at the end. */
    private static void summerDue(String what, RecurrenceBook book, int standard, int summer, int begin, int end) {
        Checks.due(what + ": local before the begin", book.local(begin - 1), begin - 1 + standard);
        Checks.due(what + ": local at the begin", book.local(begin), begin + summer);
        Checks.due(what + ": local before the end", book.local(end - 1), end - 1 + summer);
        Checks.due(what + ": local at the end", book.local(end), end + standard);
    }

    /** The moment of a local time, by an event. */
    private static void momentDue(RecurrenceBook zone, int day, int minute, int due) {
        int event = zone.event(day, minute, 1);
        Checks.due("moment of day " + day + ", minute " + minute, zone.moment(event, 0), due);
    }

    private static RecurrenceBook inZone(int standard, int summer, int begin, int n, int end, int m) {
        RecurrenceBook book = new RecurrenceBook();
        book.zone(standard, summer, begin, n, end, m);
        return book;
    }

    private static void findsTheNthSundayOfEveryYear() {
        int[][] months = {{1, 2}, {2, 7}, {4, 10}, {6, 12}, {3, 11}, {5, 9}, {8, 10}};
        for (int[] pair : months) {
            for (int n = 1; n <= 5; n++) {
                RecurrenceBook book = inZone(0, 60, pair[0], n, pair[1], 6 - n);
                for (int year = 2000; year < 2100; year++) {
                    int begin = 1440 * Model.sunday(year, pair[0], n) + 120;
                    int end = 1440 * Model.sunday(year, pair[1], 6 - n) + 120;
                    summerDue(year + ", month " + pair[0] + ", n " + n, book, 0, 60, begin, end);
                }
            }
        }
    }

    /** "n 5: the last one": the fifth where there are five, the fourth where there are four. */
    private static void takesTheLastSundayForFive() {
        // January 2000 has SU 2, 9, 16, 23, 30; February SU 6, 13, 20, 27.
        RecurrenceBook book = inZone(0, 60, 1, 5, 2, 5);
        summerDue("last of five, last of four", book, 0, 60, 1440 * 29 + 120, 1440 * 57 + 120);
        book.zone(0, 60, 1, 4, 2, 4);
        summerDue("fourth of five, fourth of four", book, 0, 60, 1440 * 22 + 120, 1440 * 57 + 120);
        book.zone(0, 60, 1, 1, 2, 1);
        summerDue("first ones", book, 0, 60, 1440 + 120, 1440 * 36 + 120);
        // February 2032 has five SU, 1 to 29; February 2026 has four, 1 to 22, and March begins with a fifth one.
        book.zone(0, 60, 2, 5, 4, 1);
        int begin = 1440 * Checks.on(2032, 2, 29) + 120;
        summerDue("29 February", book, 0, 60, begin, 1440 * Checks.on(2032, 4, 4) + 120);
        begin = 1440 * Checks.on(2026, 2, 22) + 120;
        summerDue("22 February", book, 0, 60, begin, 1440 * Checks.on(2026, 4, 5) + 120);
    }

    /** The offsets differ in all ways, so that neither can stand for the other. */
    private static void beginsAtTwoLessStandardAndEndsAtThreeLessSummer() {
        int[][] offsets = {{60, 120}, {-300, -240}, {0, 1}, {-840, 840}, {-100, 300}, {839, 840}, {-840, -839}};
        for (int[] o : offsets) {
            RecurrenceBook book = inZone(o[0], o[1], 3, 5, 10, 5);
            int begin = 1440 * Checks.on(2000, 3, 26) + 120 - o[0];
            int end = 1440 * Checks.on(2000, 10, 29) + 180 - o[1];
            summerDue("offsets " + o[0] + ", " + o[1], book, o[0], o[1], begin, end);
        }
    }

    /** "In each of these years": the first and the last of them have a summer, those around them have none. */
    private static void isThereInTheseYearsAlone() {
        RecurrenceBook book = inZone(0, 60, 3, 5, 10, 5);
        int firstBegin = 1440 * Checks.on(2000, 3, 26) + 120;
        summerDue("2000", book, 0, 60, firstBegin, 1440 * Checks.on(2000, 10, 29) + 120);
        int lastBegin = 1440 * Checks.on(2099, 3, 29) + 120;
        summerDue("2099", book, 0, 60, lastBegin, 1440 * Checks.on(2099, 10, 25) + 120);
        Checks.due("local in the summer of 2100", book.local(1440 * (36525 + 180)), 1440 * (36525 + 180));
        Checks.due("local in the summer of 1999", book.local(-1440 * 180), -1440 * 180);
        // Jan 2100 would have summer in this zone, from SU, 3 January, on.
        book.zone(0, 60, 1, 1, 12, 5);
        Checks.due("local in January 2100", book.local(1440 * (36525 + 10)), 1440 * (36525 + 10));
        Checks.due("local in December 1999", book.local(-1440 * 10), -1440 * 10);
    }

    /** 1 January 2006 is a SU: with a high standard offset its summer begins in the old year's moments. */
    private static void carriesABeginIntoTheYearBefore() {
        RecurrenceBook book = inZone(780, 840, 1, 1, 6, 1);
        int begin = 1440 * Checks.on(2006, 1, 1) + 120 - 780;
        summerDue("2006", book, 780, 840, begin, 1440 * Checks.on(2006, 6, 4) + 180 - 840);
        momentDue(book, Checks.on(2005, 12, 31), 1439, 1440 * Checks.on(2006, 1, 1) - 1 - 780);
        momentDue(book, Checks.on(2006, 1, 1), 180, 1440 * Checks.on(2006, 1, 1) + 180 - 840);
        // The earliest begin of all: SU, 2 January 2000.
        book.zone(840, 840, 1, 1, 6, 1);
        Checks.due("local of moment 0", book.local(0), 840);
        book.zone(839, 840, 1, 1, 6, 1);
        summerDue("2000", book, 839, 840, 1440 + 120 - 839, 1440 * Checks.on(2000, 6, 4) + 180 - 840);
    }

    /** 31 December 2006 is a SU: even with low offsets its summer ends before the new year's moments. */
    private static void endsOnTheLastDayOfAYear() {
        RecurrenceBook book = inZone(-840, -780, 6, 1, 12, 5);
        int end = 1440 * Checks.on(2006, 12, 31) + 180 + 780;
        summerDue("2006", book, -840, -780, 1440 * Checks.on(2006, 6, 4) + 120 + 840, end);
        book.zone(-840, -840, 6, 1, 12, 5);
        Checks.due("local behind the last day", book.local(1440 * 36525), 1440 * 36525 - 840);
    }

    /** On 26 March 2000 the local times from 02:00 to 02:59 never come: they are t - STANDARD. */
    private static void findsTheMomentOfALocalTimeThatNeverComes() {
        int day = Checks.on(2000, 3, 26);
        RecurrenceBook book = inZone(60, 120, 3, 5, 10, 5);
        momentDue(book, day, 119, 1440 * day + 59);
        momentDue(book, day, 120, 1440 * day + 60);
        momentDue(book, day, 179, 1440 * day + 119);
        momentDue(book, day, 180, 1440 * day + 60);
        momentDue(book, day, 181, 1440 * day + 61);
    }

    /** On 29 October 2000 the local times from 02:00 to 02:59 come twice: they are the first, t - SUMMER. */
    private static void findsTheMomentOfALocalTimeThatComesTwice() {
        int day = Checks.on(2000, 10, 29);
        RecurrenceBook book = inZone(60, 120, 3, 5, 10, 5);
        momentDue(book, day, 119, 1440 * day - 1);
        momentDue(book, day, 120, 1440 * day);
        momentDue(book, day, 179, 1440 * day + 59);
        momentDue(book, day, 180, 1440 * day + 120);
        momentDue(book, day, 181, 1440 * day + 121);
    }

    /** With offsets 28 hours apart, more than a day never comes: from 02:00 on 26 March, 1680 minutes. */
    private static void findsTheMomentOfALocalTimeWithWideOffsets() {
        int day = Checks.on(2000, 3, 26);
        RecurrenceBook book = inZone(-840, 840, 3, 5, 10, 5);
        momentDue(book, day, 119, 1440 * day + 119 + 840);
        momentDue(book, day, 120, 1440 * day + 120 + 840);
        momentDue(book, day + 1, 359, 1440 * (day + 1) + 359 + 840);
        momentDue(book, day + 1, 360, 1440 * (day + 1) + 360 - 840);
        int last = Checks.on(2000, 10, 29);
        momentDue(book, last, 179, 1440 * last + 179 - 840);
        momentDue(book, last, 180, 1440 * last + 180 + 840);
    }

    /** "(perhaps below 0)" */
    private static void findsMomentsBelowZero() {
        momentDue(inZone(0, 60, 3, 5, 10, 5), 0, 0, 0);
        momentDue(inZone(1, 60, 3, 5, 10, 5), 0, 0, -1);
        momentDue(inZone(840, 840, 3, 5, 10, 5), 0, 0, -840);
        momentDue(inZone(840, 840, 3, 5, 10, 5), 0, 839, -1);
        momentDue(inZone(840, 840, 3, 5, 10, 5), 0, 840, 0);
    }

    private static void findsMomentsBehindTheLastDay() {
        momentDue(inZone(0, 60, 3, 5, 10, 5), 36524, 1439, 1440 * 36525 - 1);
        momentDue(inZone(-1, 60, 3, 5, 10, 5), 36524, 1439, 1440 * 36525);
        momentDue(inZone(-840, -840, 3, 5, 10, 5), 36524, 1439, 1440 * 36525 - 1 + 840);
    }

    private static void knowsNoSummerWhenBothOffsetsAreOne() {
        RecurrenceBook book = inZone(60, 60, 3, 5, 10, 5);
        for (int minute = 119; minute <= 181; minute += 31) {
            int local = 1440 * 85 + minute;
            momentDue(book, 85, minute, local - 60);
            Checks.due("local back", book.local(local - 60), local);
        }
    }
}
