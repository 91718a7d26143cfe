/** Promise 12: span. */
public final class SpanTest {
    public static void main(String[] args) {
        answersBeginAndEnd();
        refusesSpansBeforeAnyBusy();
        refusesSpansThatAreNotThere();
        refusesSpansOfABusyThatFoundNone();
        keepsTheLatestThatDidNotThrow();
        keepsThingsAsTheyWereThen();
        forgetsTheOneBefore();
        Checks.finish("SpanTest");
    }

    /** "begins, or ends (the moment behind it)" */
    private static void answersBeginAndEnd() {
        RecurrenceBook book = new RecurrenceBook();
        book.event(0, 10, 1);
        book.event(0, 20, 5);
        book.busy(0, 100);
        Checks.due("span(0, false)", book.span(0, false), 10);
        Checks.due("span(0, true)", book.span(0, true), 11);
        Checks.due("span(1, false)", book.span(1, false), 20);
        Checks.due("span(1, true)", book.span(1, true), 25);
        Checks.due("span(0, true) again", book.span(0, true), 11);
    }

    private static void noneDue(String what, RecurrenceBook book, int k) {
        Checks.throwsElement(what + ": span(" + k + ", false)", () -> book.span(k, false));
        Checks.throwsElement(what + ": span(" + k + ", true)", () -> book.span(k, true));
    }

    private static void refusesSpansBeforeAnyBusy() {
        RecurrenceBook book = new RecurrenceBook();
        book.event(0, 0, 10);
        noneDue("before any busy", book, 0);
        Checks.throwsArgument("busy(0, 0)", () -> book.busy(0, 0));
        noneDue("behind a busy that threw", book, 0);
    }

    /** "Throws NoSuchElementException when there is none.": there are three, 0 to 2. */
    private static void refusesSpansThatAreNotThere() {
        RecurrenceBook book = Untouched.book();
        Checks.due("begin of the first", book.span(0, false), 21 * 1440 + 540);
        Checks.due("end of the last", book.span(2, true), 35 * 1440 + 600);
        int[] none = {-1, 3, 4, 1599, 1600, 1601, Integer.MIN_VALUE, Integer.MAX_VALUE};
        for (int k : none) {
            Untouched.by("span(" + k + ", false)", Checks.ELEMENT, same -> same.span(k, false));
            Untouched.by("span(" + k + ", true)", Checks.ELEMENT, same -> same.span(k, true));
        }
    }

    private static void refusesSpansOfABusyThatFoundNone() {
        RecurrenceBook book = Untouched.book();
        Checks.due("busy where nothing is", book.busy(0, 1), 0);
        noneDue("behind a busy that found none", book, 0);
        noneDue("behind a busy that found none", book, 2);
    }

    /** "of the latest busy (that did not throw ..)": one that throws comes in between. */
    private static void keepsTheLatestThatDidNotThrow() {
        RecurrenceBook book = new RecurrenceBook();
        book.event(1, 0, 10);
        book.event(2, 0, 10);
        int count = book.busy(0, 5000);
        Checks.throwsArgument("busy(9, 9)", () -> book.busy(9, 9));
        Checks.throwsArgument("busy(0, 200001)", () -> book.busy(0, 200001));
        Checks.spansDue("behind two that threw", book, count, 1440, 1450, 2880, 2890);
        Checks.spansDue("the next one", book, book.busy(0, 2000), 1440, 1450);
        Checks.throwsArgument("busy(9, 8)", () -> book.busy(9, 8));
        Checks.spansDue("behind one more that threw", book, 1, 1440, 1450);
    }

    /** "as things were then": what comes later does not change them, each thing of its own. */
    private static void keepsThingsAsTheyWereThen() {
        RecurrenceBook book = new RecurrenceBook();
        book.event(1, 0, 10);
        book.event(2, 0, 10);
        int count = book.busy(0, 5000);
        book.exclude(0, 1);
        Checks.spansDue("behind exclude", book, count, 1440, 1450, 2880, 2890);
        book.zone(60, 60, 3, 5, 10, 5);
        Checks.spansDue("behind zone", book, count, 1440, 1450, 2880, 2890);
        book.event(3, 0, 10);
        Checks.spansDue("behind event", book, count, 1440, 1450, 2880, 2890);
        book.clash(1, 2);
        book.times(0);
        book.moment(1, 0);
        book.local(5);
        book.date(2000, 1, 1);
        book.type('x');
        Checks.spansDue("behind all else", book, count, 1440, 1450, 2880, 2890);
        Checks.spansDue("worked out again", book, book.busy(0, 5000), 2820, 2830, 4260, 4270);
    }

    private static void forgetsTheOneBefore() {
        RecurrenceBook book = new RecurrenceBook();
        Checks.event(book, "FREQ=DAILY;COUNT=5", 0, 0, 10);
        Checks.due("five", book.busy(0, 10000), 5);
        Checks.due("two", book.busy(1000, 3000), 2);
        Checks.due("begin of the first", book.span(0, false), 1440);
        noneDue("behind two", book, 2);
        noneDue("behind two", book, 4);
        Checks.due("five again", book.busy(0, 10000), 5);
        Checks.due("begin of the last", book.span(4, false), 4 * 1440);
    }
}
