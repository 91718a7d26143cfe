/** Promise 2: "Types a character (any one; event() looks at it): true; false when there are 60." */
public final class TypeTest {
    private static final String SIXTY = "FREQ=DAILY;BYMONTHDAY=1,02,03,04,05,06,-31,-30;BYMONTH=01,02";

    public static void main(String[] args) {
        takesAnyCharacter();
        takesTheSixtiethAndNotTheNext();
        leavesAllElseAsItWas();
        leavesTheSixtyWhenItRefuses();
        cutsALongerText();
        goesOnAfterAnEvent();
        goesOnAfterAnEventThatWasRefused();
        Checks.finish("TypeTest");
    }

    /** No run of characters that follow one another is a rule, so each event is refused and empties what was typed. */
    private static void takesAnyCharacter() {
        int next = 0;
        while (next <= Character.MAX_VALUE) {
            RecurrenceBook book = new RecurrenceBook();
            for (int round = 0; round < 8; round++) {
                for (int i = 0; i < 60 && next <= Character.MAX_VALUE; i++) {
                    Checks.due("type(" + next + ")", book.type((char) next), true);
                    next++;
                }
                int last = next - 1;
                Checks.throwsArgument("event behind character " + last, () -> book.event(0, 0, 1));
                if (next > Character.MAX_VALUE) {
                    break;
                }
            }
        }
    }

    private static void takesTheSixtiethAndNotTheNext() {
        RecurrenceBook book = new RecurrenceBook();
        for (int i = 0; i < 60; i++) {
            Checks.due("type of character " + i, book.type('a'), true);
        }
        for (int i = 60; i < 64; i++) {
            Checks.due("type of character " + i, book.type('a'), false);
        }
    }

    private static void leavesAllElseAsItWas() {
        RecurrenceBook book = Untouched.book();
        Untouched.sameAround("type that answers true", Checks.NOTHING, book,
            same -> Checks.due("type", same.type(';'), true));
        Checks.typedDue("a book with 19 characters", book, 19);
        Untouched.sameAround("type that answers false", Checks.NOTHING, book,
            same -> Checks.due("type", same.type(';'), false));
    }

    private static void leavesTheSixtyWhenItRefuses() {
        RecurrenceBook book = new RecurrenceBook();
        Checks.due("length of the text", SIXTY.length(), 60);
        Checks.type(book, SIXTY);
        Checks.due("type of the 61st", book.type('!'), false);
        Checks.due("type of the 62nd", book.type(';'), false);
        Checks.due("event of 60 characters", book.event(0, 0, 1), 0);
        Checks.due("its second day", book.day(0, 1), 1);
    }

    /** The 61st character is not there, so the rule ends with COUNT=1. */
    private static void cutsALongerText() {
        RecurrenceBook book = new RecurrenceBook();
        String text = "FREQ=DAILY;BYMONTHDAY=1,02,03,04,05,06,07;BYMONTH=01;COUNT=12";
        Checks.due("length of the text", text.length(), 61);
        for (int i = 0; i < 61; i++) {
            Checks.due("type of character " + i, book.type(text.charAt(i)), i < 60);
        }
        Checks.daysDue("the first 60 characters", book, book.event(0, 0, 1), 0);
    }

    private static void goesOnAfterAnEvent() {
        RecurrenceBook book = new RecurrenceBook();
        Checks.type(book, SIXTY);
        Checks.due("type when there are 60", book.type('x'), false);
        book.event(0, 0, 1);
        Checks.typedDue("after an event", book, 0);
    }

    private static void goesOnAfterAnEventThatWasRefused() {
        RecurrenceBook book = new RecurrenceBook();
        Checks.typedDue("a new object", book, 0);
        Checks.throwsArgument("event of 60 x", () -> book.event(0, 0, 1));
        Checks.typedDue("after an event that was refused", book, 0);
    }
}
