/** Promise 1: "No events; both offsets 0, changes in month 3 and 10, n 5; nothing typed." */
public final class NewObjectTest {
    public static void main(String[] args) {
        hasNoEvents();
        hasNoSpans();
        hasNothingTyped();
        hasRoomForSixtyCharacters();
        hasRoomForEightEvents();
        hasOffsetsOfZero();
        sharesNothingWithAnother();
        Checks.finish("NewObjectTest");
    }

    private static void hasNoEvents() {
        RecurrenceBook book = new RecurrenceBook();
        for (int event = -1; event <= 8; event++) {
            int number = event;
            Checks.throwsElement("times(" + event + ")", () -> book.times(number));
            Checks.throwsElement("day(" + event + ", 0)", () -> book.day(number, 0));
            Checks.throwsElement("moment(" + event + ", 0)", () -> book.moment(number, 0));
            Checks.throwsElement("exclude(" + event + ", 0)", () -> book.exclude(number, 0));
            Checks.throwsElement("clash(" + event + ", " + event + ")", () -> book.clash(number, number));
        }
        Checks.due("busy(0, 200000)", book.busy(0, 200000), 0);
        Checks.due("the first event", book.event(0, 0, 1), 0);
    }

    private static void hasNoSpans() {
        RecurrenceBook book = new RecurrenceBook();
        Checks.throwsElement("span(0, false)", () -> book.span(0, false));
        Checks.throwsElement("span(0, true)", () -> book.span(0, true));
    }

    private static void hasNothingTyped() {
        RecurrenceBook book = new RecurrenceBook();
        Checks.due("event of the empty text", book.event(77, 0, 1), 0);
        Checks.daysDue("the empty text", book, 0, 77);
    }

    private static void hasRoomForSixtyCharacters() {
        Checks.typedDue("a new object", new RecurrenceBook(), 0);
    }

    private static void hasRoomForEightEvents() {
        RecurrenceBook book = new RecurrenceBook();
        for (int i = 0; i < 8; i++) {
            Checks.due("event " + i, book.event(i, 0, 1), i);
        }
    }

    /** With both offsets 0 the two changes can't be seen: summer is as far from the moments as winter. */
    private static void hasOffsetsOfZero() {
        RecurrenceBook book = new RecurrenceBook();
        int begin = 1440 * 85 + 120;
        int end = 1440 * 302 + 180;
        int[] moments = {0, begin - 1, begin, 1440 * 200, end - 1, end, 1440 * 330, -5, 1440 * 36525};
        for (int moment : moments) {
            Checks.due("local(" + moment + ")", book.local(moment), moment);
        }
        book.event(0, 0, 1);
        Checks.due("moment in winter", book.moment(0, 0), 0);
        book.event(200, 100, 1);
        Checks.due("moment in summer", book.moment(1, 0), 1440 * 200 + 100);
    }

    private static void sharesNothingWithAnother() {
        RecurrenceBook full = Untouched.book();
        RecurrenceBook fresh = new RecurrenceBook();
        String before = Untouched.picture(full);
        Checks.throwsElement("times(0) of a new object beside another", () -> fresh.times(0));
        Checks.throwsElement("span(0, false) of a new object beside another", () -> fresh.span(0, false));
        Checks.due("local of a new object beside another", fresh.local(5), 5);
        Checks.typedDue("a new object beside another", fresh, 0);
        fresh.zone(-60, -60, 3, 5, 10, 5);
        fresh.busy(0, 1);
        Checks.due("the other one is as it was", Untouched.picture(full).equals(before), true);
    }
}
