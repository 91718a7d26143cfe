/** Promise 11: busy, and what the terms say of spans. */
public final class BusyTest {
    private static final int LOWEST = Integer.MIN_VALUE;
    private static final int HIGHEST = Integer.MAX_VALUE;

    public static void main(String[] args) {
        putsSpansTogether();
        makesOneSpanOfTimesThatTouch();
        makesOneSpanOfTimesOfOneEventThatTouch();
        beginsWithATimeAndEndsBeforeItsEnd();
        cutsAtBoth();
        cutsWhatLiesOverBoth();
        findsNothing();
        refusesToThatIsNotAboveFrom();
        refusesMoreThanTwoHundredThousand();
        takesIntsAtTheirEdges();
        takesMomentsBelowZero();
        takesMomentsBehindTheLastDay();
        ordersByMoment();
        putsTogetherOverTheChanges();
        lastsAsLongOverTheChanges();
        holdsManySpans();
        Checks.finish("BusyTest");
    }

    private static String call(int from, int to) {
        return "busy(" + from + ", " + to + ")";
    }

    /** Throws, and leaves all as it was, the spans of the latest busy, too. */
    private static void refuses(int from, int to) {
        Untouched.by(call(from, to), Checks.ARGUMENT, book -> book.busy(from, to));
    }

    private static void putsSpansTogether() {
        RecurrenceBook book = new RecurrenceBook();
        book.event(0, 600, 60);
        Checks.spansDue("one", book, book.busy(0, 3000), 600, 660);
        book.event(0, 660, 40);
        Checks.spansDue("touching", book, book.busy(0, 3000), 600, 700);
        book.event(0, 701, 9);
        Checks.spansDue("a minute between", book, book.busy(0, 3000), 600, 700, 701, 710);
        book.event(0, 100, 20);
        Checks.spansDue("an earlier one", book, book.busy(0, 3000), 100, 120, 600, 700, 701, 710);
        book.event(0, 610, 10);
        Checks.spansDue("one within", book, book.busy(0, 3000), 100, 120, 600, 700, 701, 710);
        book.event(0, 110, 2880);
        Checks.spansDue("one over all", book, book.busy(0, 3000), 100, 2990);
        Checks.event(book, "FREQ=DAILY;COUNT=3", 10, 0, 1440);
        Checks.spansDue("days that touch", book, book.busy(3000, 30000), 14400, 18720);
        Checks.event(book, "FREQ=DAILY;COUNT=3", 20, 0, 2880);
        Checks.spansDue("days that overlap", book, book.busy(20000, 50000), 28800, 34560);
    }

    /** "(times that touch are one span)": one moment nearer or farther, in either order of events. */
    private static void makesOneSpanOfTimesThatTouch() {
        for (int gap = -1; gap <= 1; gap++) {
            for (int later = 0; later < 2; later++) {
                RecurrenceBook book = new RecurrenceBook();
                book.event(0, later == 0 ? 660 + gap : 600, 60);
                book.event(0, later == 0 ? 600 : 660 + gap, 60);
                int[] edges = gap > 0 ? new int[] {600, 660, 661, 721} : new int[] {600, 720 + gap};
                Checks.spansDue("gap of " + gap + ", later one is event " + later, book, book.busy(0, 3000), edges);
            }
        }
    }

    private static void makesOneSpanOfTimesOfOneEventThatTouch() {
        int[] lengths = {1439, 1440, 1441};
        for (int length : lengths) {
            RecurrenceBook book = new RecurrenceBook();
            Checks.event(book, "FREQ=DAILY;COUNT=2", 0, 600, length);
            int[] edges = length < 1440 ? new int[] {600, 600 + length, 2040, 2040 + length} : new int[] {600, 2040 + length};
            Checks.spansDue("days of " + length, book, book.busy(0, 9000), edges);
        }
    }

    /** "from the beginning of some time of an event on, before its end": its edges, moment by moment. */
    private static void beginsWithATimeAndEndsBeforeItsEnd() {
        RecurrenceBook book = new RecurrenceBook();
        book.event(0, 100, 100);
        Checks.due("the moment before its beginning", book.busy(99, 100), 0);
        Checks.due("the moment of its beginning", book.busy(100, 101), 1);
        Checks.due("its last moment", book.busy(199, 200), 1);
        Checks.due("the moment of its end", book.busy(200, 201), 0);
        book.event(1, 0, 1);
        Checks.spansDue("a time of one moment", book, book.busy(1000, 2000), 1440, 1441);
        book.event(3, 0, 2880);
        Checks.spansDue("a time of two days", book, book.busy(4000, 8000), 4320, 7200);
    }

    /** "from one moment on, before another .. (cut at both)" */
    private static void cutsAtBoth() {
        RecurrenceBook book = new RecurrenceBook();
        book.event(0, 100, 100);
        Checks.spansDue("whole", book, book.busy(100, 200), 100, 200);
        Checks.spansDue("a moment wider", book, book.busy(99, 201), 100, 200);
        Checks.spansDue("cut by a moment", book, book.busy(101, 199), 101, 199);
        Checks.spansDue("cut at from", book, book.busy(150, 300), 150, 200);
        Checks.spansDue("cut at to", book, book.busy(0, 150), 100, 150);
        Checks.spansDue("cut at both", book, book.busy(120, 130), 120, 130);
        Checks.spansDue("from at its end", book, book.busy(200, 300));
        Checks.spansDue("to at its begin", book, book.busy(0, 100));
        Checks.spansDue("its first moment", book, book.busy(0, 101), 100, 101);
        Checks.spansDue("its last moment", book, book.busy(199, 300), 199, 200);
        Checks.spansDue("below 0", book, book.busy(-500, 101), 100, 101);
    }

    private static void cutsWhatLiesOverBoth() {
        RecurrenceBook book = new RecurrenceBook();
        book.event(0, 100, 100);
        book.event(0, 90, 50);
        Checks.spansDue("two that begin before from", book, book.busy(120, 300), 120, 200);
        book.event(0, 300, 20);
        book.event(0, 310, 50);
        Checks.spansDue("two that end behind to", book, book.busy(250, 315), 300, 315);
        Checks.spansDue("cut on both sides of a gap", book, book.busy(150, 305), 150, 200, 300, 305);
        Checks.spansDue("the gap alone", book, book.busy(200, 300));
        Checks.spansDue("the gap and a moment on either side", book, book.busy(199, 301), 199, 200, 300, 301);
    }

    private static void findsNothing() {
        RecurrenceBook book = new RecurrenceBook();
        Checks.spansDue("no events", book, book.busy(0, 200000));
        Checks.event(book, "FREQ=DAILY;UNTIL=20000101", 1);
        Checks.spansDue("an event with no times", book, book.busy(0, 200000));
        book.event(5, 0, 1);
        Checks.spansDue("one event", book, book.busy(0, 200000), 7200, 7201);
        book.exclude(1, 5);
        Checks.spansDue("an excluded day", book, book.busy(0, 200000));
    }

    /** "Throws IllegalArgumentException when to is not above from" */
    private static void refusesToThatIsNotAboveFrom() {
        RecurrenceBook book = new RecurrenceBook();
        Checks.due("to is one above from", book.busy(0, 1), 0);
        refuses(0, 0);
        refuses(5, 4);
        refuses(0, -1);
        refuses(200000, 0);
        refuses(LOWEST, LOWEST);
        refuses(HIGHEST, HIGHEST);
        refuses(HIGHEST, LOWEST);
        // Their difference, as an int, is 201: it wraps.
        refuses(HIGHEST - 100, LOWEST + 100);
        refuses(0, LOWEST);
        refuses(1, LOWEST);
    }

    /** "or is more than 200000 above it" */
    private static void refusesMoreThanTwoHundredThousand() {
        RecurrenceBook book = new RecurrenceBook();
        Checks.due(call(0, 200000), book.busy(0, 200000), 0);
        Checks.due(call(-100000, 100000), book.busy(-100000, 100000), 0);
        refuses(0, 200001);
        refuses(-1, 200000);
        refuses(-100000, 100001);
        refuses(0, HIGHEST);
        refuses(LOWEST, HIGHEST);
        refuses(LOWEST, 0);
        refuses(LOWEST, LOWEST + 200001);
        refuses(HIGHEST - 200001, HIGHEST);
        refuses(-2000000000, 2000000000);
    }

    private static void takesIntsAtTheirEdges() {
        RecurrenceBook book = Untouched.book();
        Checks.spansDue("at the lowest", book, book.busy(LOWEST, LOWEST + 200000));
        Checks.spansDue("at the highest", book, book.busy(HIGHEST - 200000, HIGHEST));
        Checks.spansDue("the lowest moment", book, book.busy(LOWEST, LOWEST + 1));
        Checks.spansDue("the highest moments", book, book.busy(HIGHEST - 1, HIGHEST));
    }

    private static void takesMomentsBelowZero() {
        RecurrenceBook book = new RecurrenceBook();
        book.event(0, 100, 100);
        book.zone(840, 840, 3, 5, 10, 5);
        Checks.spansDue("moments below 0", book, book.busy(-1000, 0), -740, -640);
        Checks.spansDue("cut below 0", book, book.busy(-700, -650), -700, -650);
        book.event(0, 830, 20);
        Checks.spansDue("over 0", book, book.busy(-100, 100), -10, 10);
        Checks.spansDue("cut at 0", book, book.busy(0, 100), 0, 10);
    }

    private static void takesMomentsBehindTheLastDay() {
        RecurrenceBook book = new RecurrenceBook();
        int start = 1440 * 36525 - 1;
        book.event(36524, 1439, 2880);
        Checks.spansDue("behind the last day", book, book.busy(start - 5, start + 5000), start, start + 2880);
        book.zone(-840, -840, 3, 5, 10, 5);
        Checks.spansDue("in another zone", book, book.busy(start - 5, start + 5000), start + 840, start + 3720);
    }

    private static void ordersByMoment() {
        RecurrenceBook book = new RecurrenceBook();
        Checks.event(book, "FREQ=DAILY;COUNT=2", 85, 600, 60);
        book.zone(-840, 840, 3, 5, 10, 5);
        Checks.spansDue("a later day first", book, book.busy(120000, 130000), 123600, 123660, 123840, 123900);
    }

    /** Local times that lie an hour apart touch where summer begins, and do not where it ends. */
    private static void putsTogetherOverTheChanges() {
        RecurrenceBook book = new RecurrenceBook();
        book.event(85, 60, 60);
        book.event(85, 180, 60);
        book.event(302, 120, 60);
        book.event(302, 180, 60);
        int begin = 85 * 1440;
        int end = 302 * 1440;
        Checks.spansDue("without summer", book, book.busy(begin, begin + 1440), begin + 60, begin + 120, begin + 180, begin + 240);
        Checks.spansDue("without summer", book, book.busy(end, end + 1440), end + 120, end + 240);
        book.zone(0, 60, 3, 5, 10, 5);
        Checks.spansDue("where summer begins", book, book.busy(begin, begin + 1440), begin + 60, begin + 180);
        Checks.spansDue("where summer ends", book, book.busy(end, end + 1440), end + 60, end + 120, end + 180, end + 240);
    }

    /** "and lasts as long as its length": in moments, whatever the zone does to local times meanwhile. */
    private static void lastsAsLongOverTheChanges() {
        RecurrenceBook book = new RecurrenceBook();
        book.zone(-840, 840, 3, 5, 10, 5);
        book.event(84, 0, 2880);
        book.event(302, 0, 2880);
        int begin = 84 * 1440 + 840;
        int end = 302 * 1440 - 840;
        Checks.spansDue("where summer begins", book, book.busy(begin - 5000, begin + 5000), begin, begin + 2880);
        Checks.spansDue("where summer ends", book, book.busy(end - 5000, end + 5000), end, end + 2880);
    }

    /** Eight events with a time a day: as many spans as 200000 moments can hold. */
    private static void holdsManySpans() {
        RecurrenceBook book = new RecurrenceBook();
        for (int i = 0; i < 8; i++) {
            Checks.event(book, "FREQ=DAILY", 0, 100 * i, 50);
        }
        Checks.due("busy", book.busy(0, 200000), 1112);
        Checks.due("begin of the last span", book.span(1111, false), 138 * 1440 + 700);
        Checks.due("end of the last span", book.span(1111, true), 138 * 1440 + 750);
        Checks.due("busy of the rest", book.busy(200000, 400000), 61 * 8);
        Checks.due("begin of the very last span", book.span(61 * 8 - 1, false), 199 * 1440 + 700);
    }
}
