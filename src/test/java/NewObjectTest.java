/** Promise 1: A new object. */
public final class NewObjectTest {
    public static void main(String[] args) {
        hasNoEvents();
        hasNoSpans();
        hasNothingTyped();
        hasOffsetsOfZero();
        Checks.finish("NewObjectTest");
    }

    private static void hasNoEvents() {
        RecurrenceBook book = new RecurrenceBook();
        Checks.throwsElement("times(0)", () -> book.times(0));
        Checks.throwsElement("clash(0, 0)", () -> book.clash(0, 0));
        Checks.due("busy(0, 200000)", book.busy(0, 200000), 0);
        Checks.due("the first event", book.event(0, 0, 1), 0);
    }

    private static void hasNoSpans() {
        RecurrenceBook book = new RecurrenceBook();
        Checks.throwsElement("span(0, false)", () -> book.span(0, false));
        Checks.throwsElement("span(0, true)", () -> book.span(0, true));
    }

    private static void hasNothingTyped() {
        RecurrenceBook book = new RecurrenceBook();
        Checks.due("event of the empty text", book.event(77, 0, 1), 0);
        Checks.daysDue("the empty text", book, 0, 77);
    }

    private static void hasOffsetsOfZero() {
        RecurrenceBook book = new RecurrenceBook();
        int[] moments = {0, 1440 * 90, 1440 * 200, 1440 * 330, -5};
        for (int moment : moments) {
            Checks.due("local(" + moment + ")", book.local(moment), moment);
        }
        book.event(200, 100, 1);
        Checks.due("moment(0, 0)", book.moment(0, 0), 1440 * 200 + 100);
    }
}
