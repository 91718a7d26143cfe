/** Promise 5: exclude. */
public final class ExcludeTest {
    public static void main(String[] args) {
        leavesDaysOut();
        givesTimesBehindItANumberLess();
        refusesADayThatIsExcluded();
        refusesADayOfNoRule();
        refusesDaysBehindTheLimits();
        takesTwelveAndRefusesTheThirteenth();
        countsTwelveForEachEvent();
        countsOnlyDaysThatWereExcluded();
        refusesEventsThatAreNotThere();
        countsForCount();
        countsForTwoHundred();
        reachesMomentBusyAndClash();
        staysWithItsEvent();
        Checks.finish("ExcludeTest");
    }

    /** Answers false, and leaves all as it was. */
    private static void refuses(String why, int event, int day) {
        String call = "exclude(" + event + ", " + day + "), " + why;
        Untouched.by(call, Checks.NOTHING, book -> Checks.due(call, book.exclude(event, day), false));
    }

    private static void leavesDaysOut() {
        RecurrenceBook book = new RecurrenceBook();
        Checks.event(book, "FREQ=DAILY;COUNT=5", 10);
        Checks.event(book, "FREQ=DAILY;COUNT=5", 10);
        Checks.due("exclude the middle", book.exclude(0, 12), true);
        Checks.daysDue("without 12", book, 0, 10, 11, 13, 14);
        Checks.due("exclude the first", book.exclude(0, 10), true);
        Checks.due("exclude the last", book.exclude(0, 14), true);
        Checks.daysDue("without 10, 12, 14", book, 0, 11, 13);
        Checks.due("exclude", book.exclude(0, 11), true);
        Checks.due("exclude", book.exclude(0, 13), true);
        Checks.daysDue("without any", book, 0);
        Checks.daysDue("the other event", book, 1, 10, 11, 12, 13, 14);
    }

    /** "times behind it have a number less": those before it keep theirs. */
    private static void givesTimesBehindItANumberLess() {
        RecurrenceBook book = new RecurrenceBook();
        Checks.event(book, "FREQ=WEEKLY;COUNT=4", 0, 60, 10);
        book.exclude(0, 14);
        Checks.due("day before it", book.day(0, 1), 7);
        Checks.due("day behind it", book.day(0, 2), 21);
        Checks.due("moment before it", book.moment(0, 1), 7 * 1440 + 60);
        Checks.due("moment behind it", book.moment(0, 2), 21 * 1440 + 60);
        Checks.throwsElement("day(0, 3)", () -> book.day(0, 3));
        Checks.throwsElement("moment(0, 3)", () -> book.moment(0, 3));
    }

    /** "false when it is excluded" */
    private static void refusesADayThatIsExcluded() {
        refuses("which is excluded", 0, 14);
        RecurrenceBook book = new RecurrenceBook();
        book.event(5, 0, 1);
        Checks.due("exclude(0, 5)", book.exclude(0, 5), true);
        Checks.due("exclude(0, 5) again", book.exclude(0, 5), false);
        Checks.due("exclude(0, 5) once more", book.exclude(0, 5), false);
        Checks.daysDue("its only day is out", book, 0);
    }

    /** "no day of its rule": before the first, between, behind the last, and what is no day at all. */
    private static void refusesADayOfNoRule() {
        refuses("before the first", 0, 0);
        refuses("right before the first", 0, 6);
        refuses("between", 0, 8);
        refuses("right behind one", 0, 22);
        refuses("behind the last", 0, 7 + 7 * 30);
        refuses("of another event", 0, 80);
        refuses("of an event with no times", 2, 1);
        refuses("before the days", 0, -1);
        refuses("behind the days", 0, 36525);
        refuses("the lowest int", 0, Integer.MIN_VALUE);
        refuses("the highest int", 0, Integer.MAX_VALUE);
    }

    /** Days that the rule would mean, but for UNTIL, COUNT, 200 or 36524. */
    private static void refusesDaysBehindTheLimits() {
        RecurrenceBook book = new RecurrenceBook();
        String[] texts = {"FREQ=DAILY;UNTIL=20000105", "FREQ=DAILY;COUNT=5", "FREQ=DAILY", "FREQ=DAILY", ""};
        int[] firsts = {0, 0, 0, 36520, 7};
        int[] lasts = {4, 4, 199, 36524, 7};
        for (int i = 0; i < texts.length; i++) {
            Checks.event(book, texts[i], firsts[i]);
            String what = texts[i] + " from " + firsts[i];
            Checks.due(what + ": exclude the day behind the last", book.exclude(i, lasts[i] + 1), false);
            Checks.due(what + ": exclude the day before the first", book.exclude(i, firsts[i] - 1), false);
            int times = book.times(i);
            Checks.due(what + ": times", times, lasts[i] - firsts[i] + 1);
            Checks.due(what + ": exclude the last", book.exclude(i, lasts[i]), true);
            Checks.due(what + ": times behind it", book.times(i), times - 1);
        }
    }

    /** "or 12 are" */
    private static void takesTwelveAndRefusesTheThirteenth() {
        RecurrenceBook book = new RecurrenceBook();
        Checks.event(book, "FREQ=DAILY;COUNT=20", 0, 60, 10);
        for (int day = 0; day < 12; day++) {
            Checks.due("exclude number " + day, book.exclude(0, day), true);
            Checks.due("times behind exclude number " + day, book.times(0), 19 - day);
        }
        Untouched.sameAround("the thirteenth", Checks.NOTHING, book,
            same -> Checks.due("exclude number 12", same.exclude(0, 12), false));
        Untouched.sameAround("the thirteenth, the last day", Checks.NOTHING, book,
            same -> Checks.due("exclude number 12", same.exclude(0, 19), false));
        Untouched.sameAround("one of the twelve", Checks.NOTHING, book,
            same -> Checks.due("exclude number 0 again", same.exclude(0, 0), false));
        Checks.daysDue("the rest", book, 0, 12, 13, 14, 15, 16, 17, 18, 19);
    }

    private static void countsTwelveForEachEvent() {
        RecurrenceBook book = new RecurrenceBook();
        for (int event = 0; event < 8; event++) {
            Checks.event(book, "FREQ=DAILY;COUNT=14", 0);
        }
        for (int event = 0; event < 8; event++) {
            for (int day = 0; day < 13; day++) {
                Checks.due("exclude(" + event + ", " + day + ")", book.exclude(event, day), day < 12);
            }
            Checks.daysDue("event " + event, book, event, 12, 13);
        }
    }

    /** Those that were refused are not among the 12. */
    private static void countsOnlyDaysThatWereExcluded() {
        RecurrenceBook book = new RecurrenceBook();
        Checks.event(book, "FREQ=DAILY;COUNT=20", 0);
        for (int i = 0; i < 12; i++) {
            Checks.due("exclude no day", book.exclude(0, 100), false);
            Checks.due("exclude number " + i, book.exclude(0, i), true);
            Checks.due("exclude number " + i + " again", book.exclude(0, i), false);
        }
        Checks.due("exclude number 12", book.exclude(0, 12), false);
        Checks.due("times", book.times(0), 8);
    }

    /** "Throws NoSuchElementException when there is no such event." */
    private static void refusesEventsThatAreNotThere() {
        int[] none = {-1, 3, 7, 8, Integer.MIN_VALUE, Integer.MAX_VALUE};
        for (int event : none) {
            Untouched.by("exclude(" + event + ", 7)", Checks.ELEMENT, book -> book.exclude(event, 7));
            Untouched.by("exclude(" + event + ", -1)", Checks.ELEMENT, book -> book.exclude(event, -1));
        }
        RecurrenceBook book = new RecurrenceBook();
        for (int event = 0; event < 8; event++) {
            int number = event;
            Checks.throwsElement("exclude(" + event + ", 7) before it is there", () -> book.exclude(number, 7));
            book.event(7, 0, 1);
            Checks.due("exclude(" + event + ", 7)", book.exclude(event, 7), true);
        }
    }

    /** "no other one comes for it": with COUNT */
    private static void countsForCount() {
        RecurrenceBook book = new RecurrenceBook();
        Checks.event(book, "FREQ=DAILY;COUNT=3", 0);
        book.exclude(0, 0);
        Checks.daysDue("two of three", book, 0, 1, 2);
        Checks.due("the fourth day", book.exclude(0, 3), false);
    }

    /** "no other one comes for it": with 200 */
    private static void countsForTwoHundred() {
        RecurrenceBook book = new RecurrenceBook();
        Checks.event(book, "FREQ=DAILY", 0);
        Checks.due("exclude the last", book.exclude(0, 199), true);
        Checks.due("exclude one in the middle", book.exclude(0, 100), true);
        Checks.due("times", book.times(0), 198);
        Checks.due("the last day", book.day(0, 197), 198);
        Checks.throwsElement("day(0, 198)", () -> book.day(0, 198));
        Checks.due("the day behind 200", book.exclude(0, 200), false);
    }

    private static void reachesMomentBusyAndClash() {
        RecurrenceBook book = new RecurrenceBook();
        Checks.event(book, "FREQ=DAILY;COUNT=3", 0, 60, 30);
        Checks.event(book, "FREQ=DAILY;COUNT=3", 0, 70, 30);
        Checks.due("clash", book.clash(0, 1), 70);
        book.exclude(1, 0);
        Checks.due("clash", book.clash(0, 1), 1510);
        book.exclude(0, 0);
        Checks.spansDue("busy", book, book.busy(0, 5000), 1500, 1540, 2940, 2980);
        Checks.due("moment", book.moment(0, 0), 1500);
    }

    /** A zone or another event behind it brings no day back. */
    private static void staysWithItsEvent() {
        RecurrenceBook book = new RecurrenceBook();
        Checks.event(book, "FREQ=DAILY;COUNT=3", 0, 60, 30);
        book.exclude(0, 1);
        book.zone(60, 120, 3, 5, 10, 5);
        Checks.event(book, "FREQ=DAILY;COUNT=3", 0, 60, 30);
        Checks.daysDue("event 0", book, 0, 0, 2);
        Checks.daysDue("event 1", book, 1, 0, 1, 2);
        Checks.due("exclude again", book.exclude(0, 1), false);
    }
}
