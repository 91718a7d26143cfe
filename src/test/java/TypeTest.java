/** Promise 2: type. */
public final class TypeTest {
    public static void main(String[] args) {
        takesAnyCharacter();
        takesSixty();
        goesOnAfterAnEvent();
        Checks.finish("TypeTest");
    }

    private static void takesAnyCharacter() {
        RecurrenceBook book = new RecurrenceBook();
        char[] odd = {0, ' ', 'x', 255, 256, Character.MAX_VALUE};
        for (char c : odd) {
            Checks.due("type(" + (int) c + ")", book.type(c), true);
        }
        Checks.throwsArgument("event after odd characters", () -> book.event(0, 0, 1));
    }

    private static void takesSixty() {
        RecurrenceBook book = new RecurrenceBook();
        String sixty = "FREQ=DAILY;BYMONTHDAY=1,02,03,04,05,06,-31,-30;BYMONTH=01,02";
        Checks.due("length of the text", sixty.length(), 60);
        Checks.type(book, sixty);
        Checks.due("type of the 61st", book.type('!'), false);
        Checks.due("type of the 62nd", book.type(';'), false);
        Checks.due("event of 60 characters", book.event(0, 0, 1), 0);
        Checks.due("its second day", book.day(0, 1), 1);
    }

    private static void goesOnAfterAnEvent() {
        RecurrenceBook book = new RecurrenceBook();
        for (int i = 0; i < 60; i++) {
            book.type('x');
        }
        Checks.due("type when there are 60", book.type('x'), false);
        Checks.throwsArgument("event of 60 x", () -> book.event(0, 0, 1));
        Checks.due("type when nothing is typed", book.type('x'), true);
    }
}
