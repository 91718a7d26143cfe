import java.util.function.Consumer;
import java.util.function.IntSupplier;

/** A book with something of everything in it, to see that a call leaves all of it as it was. */
final class Untouched {
    private static final String TYPED = "FREQ=DAILY;COUNT=3";
    /** A moment in winter, one in summer, and the two at which summer begins and ends. */
    private static final int[] MOMENTS = {0, 1440 * 180, 1440 * 85 + 60, 1440 * 302 + 60};

    private Untouched() {
    }

    /** Three events (0 to 2; one has lost a day, one has no times), a zone, three spans, a rule that is typed. */
    static RecurrenceBook book() {
        RecurrenceBook book = new RecurrenceBook();
        book.zone(60, 120, 3, 5, 10, 5);
        Checks.event(book, "FREQ=WEEKLY;COUNT=30", 7, 600, 60);
        Checks.event(book, "FREQ=DAILY;COUNT=20", 80, 610, 30);
        Checks.event(book, "FREQ=DAILY;UNTIL=20000101", 1);
        book.exclude(0, 14);
        Checks.due("spans of the book", book.busy(1440 * 20, 1440 * 40), 3);
        Checks.type(book, TYPED);
        return book;
    }

    /** Makes a call of a new book, and looks whether all is as it was before, what was typed, too. */
    static void by(String call, int kind, Consumer<RecurrenceBook> action) {
        RecurrenceBook book = book();
        sameAround(call, kind, book, action);
        Checks.daysDue("what was typed before " + call, book, book.event(9, 0, 1), 9, 10, 11);
    }

    /** As by, for a call that leaves nothing typed. */
    static void butForTyped(String call, int kind, Consumer<RecurrenceBook> action) {
        RecurrenceBook book = book();
        sameAround(call, kind, book, action);
        Checks.due("event behind " + call, book.event(9, 0, 1), 3);
        Checks.daysDue("nothing was typed behind " + call, book, 3, 9);
        Checks.typedDue("behind " + call, book, 0);
    }

    static void sameAround(String call, int kind, RecurrenceBook book, Consumer<RecurrenceBook> action) {
        String before = picture(book);
        Checks.due(call + " (kind of exception)", Checks.thrown(() -> action.accept(book)), kind);
        String after = picture(book);
        Checks.due(call + " leaves " + before + " as it was, not " + after, after.equals(before), true);
    }

    /** What a book tells of its events, its zone and its spans when it is asked. */
    static String picture(RecurrenceBook book) {
        StringBuilder text = new StringBuilder();
        for (int event = 0; event < 9; event++) {
            int number = event;
            String times = answer(() -> book.times(number));
            text.append(times).append('(');
            if (!times.equals("none")) {
                pictureOfTimes(text, book, number, Integer.parseInt(times));
            }
            text.append(')');
        }
        for (int moment : MOMENTS) {
            text.append(answer(() -> book.local(moment - 1))).append(' ').append(answer(() -> book.local(moment))).append(' ');
        }
        for (int k = 0; k < 4; k++) {
            int span = k;
            text.append(answer(() -> book.span(span, false))).append('-').append(answer(() -> book.span(span, true))).append(' ');
        }
        return text.toString();
    }

    private static void pictureOfTimes(StringBuilder text, RecurrenceBook book, int event, int times) {
        int[] some = {0, 1, times - 1};
        for (int k : some) {
            text.append(answer(() -> book.day(event, k))).append('@').append(answer(() -> book.moment(event, k))).append(' ');
        }
        text.append(answer(() -> book.clash(event, event))).append(' ').append(answer(() -> book.clash(0, event)));
    }

    private static String answer(IntSupplier call) {
        int[] answer = new int[1];
        int kind = Checks.thrown(() -> answer[0] = call.getAsInt());
        return kind == Checks.NOTHING ? "" + answer[0] : kind == Checks.ELEMENT ? "none" : "wrong";
    }
}
