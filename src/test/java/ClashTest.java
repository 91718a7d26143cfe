/** Promise 13: clash. */
public final class ClashTest {
    public static void main(String[] args) {
        findsTheFirstMoment();
        findsNoneOfTimesThatTouch();
        findsTheOneMomentThatIsShared();
        findsNone();
        findsTheLastPairOfManyTimes();
        takesOneEventTwice();
        takesExcludedDaysForNothing();
        followsTheZone();
        findsMomentsAroundZero();
        refusesEventsThatAreNotThere();
        leavesAllAsItWas();
        Checks.finish("ClashTest");
    }

    /** In either order of the two. */
    private static void clashDue(String what, RecurrenceBook book, int a, int b, int due) {
        Checks.due(what + ": clash(" + a + ", " + b + ")", book.clash(a, b), due);
        Checks.due(what + ": clash(" + b + ", " + a + ")", book.clash(b, a), due);
    }

    private static void findsTheFirstMoment() {
        RecurrenceBook book = new RecurrenceBook();
        Checks.event(book, "FREQ=WEEKLY;COUNT=10", 0, 600, 60);
        Checks.event(book, "FREQ=DAILY;COUNT=10", 5, 630, 60);
        clashDue("the first of some", book, 0, 1, 7 * 1440 + 630);
        book.event(0, 0, 2880);
        clashDue("one within a long one", book, 2, 0, 600);
        book.event(0, 659, 1);
        clashDue("the last moment", book, 0, 3, 659);
        book.event(0, 600, 1);
        clashDue("the first moment", book, 4, 0, 600);
    }

    /** Ends are behind a time: two that touch share no moment. */
    private static void findsNoneOfTimesThatTouch() {
        RecurrenceBook book = new RecurrenceBook();
        book.event(0, 600, 60);
        book.event(0, 660, 60);
        clashDue("touching", book, 0, 1, -1);
        book.event(0, 599, 1);
        clashDue("touching before", book, 0, 2, -1);
        book.event(0, 660, 1);
        clashDue("touching behind", book, 0, 3, -1);
        book.event(0, 661, 60);
        clashDue("a moment between", book, 0, 4, -1);
    }

    private static void findsTheOneMomentThatIsShared() {
        RecurrenceBook book = new RecurrenceBook();
        book.event(0, 600, 60);
        book.event(0, 659, 60);
        clashDue("the last moment", book, 0, 1, 659);
        book.event(0, 541, 60);
        clashDue("the first moment", book, 0, 2, 600);
        book.event(0, 600, 60);
        clashDue("the same times", book, 0, 3, 600);
        book.event(0, 630, 1);
        clashDue("a moment within", book, 0, 4, 630);
    }

    /** "-1 when there is none" */
    private static void findsNone() {
        RecurrenceBook book = new RecurrenceBook();
        book.event(0, 600, 60);
        Checks.event(book, "FREQ=DAILY;UNTIL=20000101", 5);
        clashDue("with an event of no times", book, 0, 1, -1);
        clashDue("of an event of no times", book, 1, 1, -1);
        Checks.event(book, "FREQ=DAILY;INTERVAL=2", 0, 0, 1440);
        Checks.event(book, "FREQ=DAILY;INTERVAL=2", 1, 0, 1440);
        clashDue("in turn", book, 2, 3, -1);
        book.event(36524, 1439, 2880);
        clashDue("far apart", book, 0, 4, -1);
    }

    /** They meet on the last of 200 days alone. */
    private static void findsTheLastPairOfManyTimes() {
        RecurrenceBook book = new RecurrenceBook();
        Checks.event(book, "FREQ=DAILY", 0, 0, 10);
        book.event(199, 9, 10);
        clashDue("the last of 200", book, 0, 1, 199 * 1440 + 9);
        book.event(200, 0, 10);
        clashDue("the day behind 200", book, 0, 2, -1);
        Checks.event(book, "FREQ=DAILY", 199, 5, 10);
        clashDue("the last of one, the first of the other", book, 0, 3, 199 * 1440 + 5);
    }

    /** "(perhaps the same one)": the beginning of its earliest time. */
    private static void takesOneEventTwice() {
        RecurrenceBook book = new RecurrenceBook();
        Checks.event(book, "FREQ=DAILY;COUNT=2", 85, 600, 60);
        Checks.due("clash(0, 0)", book.clash(0, 0), 85 * 1440 + 600);
        book.zone(-840, 840, 3, 5, 10, 5);
        Checks.due("clash(0, 0), a later day first", book.clash(0, 0), 86 * 1440 + 600 - 840);
        book.exclude(0, 86);
        Checks.due("clash(0, 0) without it", book.clash(0, 0), 85 * 1440 + 600 + 840);
        book.exclude(0, 85);
        Checks.due("clash(0, 0) without any", book.clash(0, 0), -1);
    }

    private static void takesExcludedDaysForNothing() {
        RecurrenceBook book = new RecurrenceBook();
        Checks.event(book, "FREQ=DAILY;COUNT=3", 0, 60, 30);
        Checks.event(book, "FREQ=DAILY;COUNT=3", 0, 70, 30);
        clashDue("all days", book, 0, 1, 70);
        book.exclude(0, 0);
        clashDue("without day 0", book, 0, 1, 1510);
        book.exclude(1, 1);
        clashDue("without day 0 of one and day 1 of the other", book, 0, 1, 2950);
        book.exclude(1, 2);
        clashDue("without any pair", book, 0, 1, -1);
    }

    /** "in the present zone" */
    private static void followsTheZone() {
        RecurrenceBook book = new RecurrenceBook();
        // These two meet only where summer begins: what never comes falls behind 03:00.
        book.event(85, 150, 30);
        book.event(85, 185, 30);
        clashDue("without summer", book, 0, 1, -1);
        book.zone(60, 120, 3, 5, 10, 5);
        clashDue("over the begin of summer", book, 0, 1, 85 * 1440 + 90);
        book.zone(60, 60, 3, 5, 10, 5);
        clashDue("without summer again", book, 0, 1, -1);
        // These two meet but where summer ends.
        book.event(302, 170, 30);
        book.event(302, 180, 30);
        clashDue("without summer", book, 2, 3, 302 * 1440 + 120);
        book.zone(60, 120, 3, 5, 10, 5);
        clashDue("over the end of summer", book, 2, 3, -1);
    }

    /** A moment below 0 is an answer like others. */
    private static void findsMomentsAroundZero() {
        RecurrenceBook book = new RecurrenceBook();
        book.event(0, 0, 10);
        book.event(0, 5, 10);
        clashDue("at 0 or above", book, 0, 1, 5);
        Checks.due("clash(0, 0)", book.clash(0, 0), 0);
        book.zone(5, 5, 3, 5, 10, 5);
        clashDue("at 0", book, 0, 1, 0);
        Checks.due("clash(0, 0) below 0", book.clash(0, 0), -5);
        book.zone(7, 7, 3, 5, 10, 5);
        clashDue("below 0", book, 0, 1, -2);
        book.zone(840, 840, 3, 5, 10, 5);
        clashDue("far below 0", book, 0, 1, -835);
    }

    /** "Throws NoSuchElementException when one is not there." */
    private static void refusesEventsThatAreNotThere() {
        int[] none = {-1, 3, 7, 8, Integer.MIN_VALUE, Integer.MAX_VALUE};
        for (int event : none) {
            Untouched.by("clash(0, " + event + ")", Checks.ELEMENT, book -> book.clash(0, event));
            Untouched.by("clash(" + event + ", 0)", Checks.ELEMENT, book -> book.clash(event, 0));
            Untouched.by("clash(2, " + event + ")", Checks.ELEMENT, book -> book.clash(2, event));
            Untouched.by("clash(" + event + ", " + event + ")", Checks.ELEMENT, book -> book.clash(event, event));
        }
        RecurrenceBook book = new RecurrenceBook();
        for (int event = 0; event < 8; event++) {
            int number = event;
            Checks.throwsElement("clash(0, " + event + ") before it is there", () -> book.clash(0, number));
            Checks.throwsElement("clash(" + event + ", 0) before it is there", () -> book.clash(number, 0));
            book.event(3, 10, 5);
            clashDue("when it is there", book, 0, event, 3 * 1440 + 10);
        }
    }

    private static void leavesAllAsItWas() {
        Untouched.by("clash that finds one", Checks.NOTHING,
            book -> Checks.due("clash(0, 1)", book.clash(0, 1), 84 * 1440 + 550));
        Untouched.by("clash that finds none", Checks.NOTHING, book -> Checks.due("clash(0, 2)", book.clash(0, 2), -1));
    }
}
