import java.util.function.IntFunction;

/** "An object is used for at most 512 calls": the 512th answers as the first did, of whatever kind they are. */
public final class CallsTest {
    private static final int CALLS = 512;

    public static void main(String[] args) {
        repeatsAnswers();
        refusesAgainAndAgain();
        changesTheZoneAgainAndAgain();
        emptiesWhatWasTypedAgainAndAgain();
        worksOutAFullBookAgainAndAgain();
        Checks.finish("CallsTest");
    }

    /** As many calls of one kind as are left when the book is made. */
    private static void repeat(String call, RecurrenceBook book, int used, long due, IntFunction<Long> answer) {
        for (int i = used; i < CALLS; i++) {
            Checks.due(call + ", call " + i, answer.apply(i), due);
        }
    }

    private static void repeatsAnswers() {
        RecurrenceBook[] books = new RecurrenceBook[5];
        for (int i = 0; i < books.length; i++) {
            books[i] = new RecurrenceBook();
            books[i].event(5, 100, 10);
        }
        repeat("times", books[0], 1, 1, i -> (long) books[0].times(0));
        repeat("day", books[1], 1, 5, i -> (long) books[1].day(0, 0));
        repeat("moment", books[2], 1, 7300, i -> (long) books[2].moment(0, 0));
        repeat("clash", books[3], 1, 7300, i -> (long) books[3].clash(0, 0));
        repeat("busy", books[4], 1, 1, i -> (long) books[4].busy(7000 + i % 100, 8000));
    }

    private static void refusesAgainAndAgain() {
        RecurrenceBook book = new RecurrenceBook();
        repeat("event on no day", book, 0, Checks.ARGUMENT, i -> (long) Checks.thrown(() -> book.event(-1, 0, 1)));
        RecurrenceBook full = new RecurrenceBook();
        for (int i = 0; i < 8; i++) {
            full.event(i, 0, 1);
        }
        repeat("event when full", full, 8, Checks.STATE, i -> (long) Checks.thrown(() -> full.event(0, 0, 1)));
        RecurrenceBook typed = new RecurrenceBook();
        Checks.typedDue("a new object", typed, 0);
        repeat("type when there are 60", typed, 61, 0, i -> typed.type('x') ? 1L : 0L);
    }

    private static void changesTheZoneAgainAndAgain() {
        RecurrenceBook book = new RecurrenceBook();
        book.event(5, 100, 10);
        for (int i = 1; i + 1 < CALLS; i += 2) {
            book.zone(i % 840, 840, 3, 5, 10, 5);
            Checks.due("moment behind zone, call " + (i + 1), book.moment(0, 0), 7300 - i % 840);
        }
    }

    private static void emptiesWhatWasTypedAgainAndAgain() {
        RecurrenceBook book = new RecurrenceBook();
        for (int i = 0; i + 1 < CALLS; i += 2) {
            Checks.due("type, call " + i, book.type('x'), true);
            Checks.throwsArgument("event, call " + (i + 1), () -> book.event(0, 0, 1));
        }
    }

    /** The dearest calls, on a book that holds all it can. */
    private static void worksOutAFullBookAgainAndAgain() {
        RecurrenceBook book = new RecurrenceBook();
        int used = 0;
        for (int i = 0; i < 8; i++) {
            used += "FREQ=DAILY".length() + 1;
            Checks.event(book, "FREQ=DAILY", i, 100 * i + 10, 50);
        }
        for (int i = used; i + 1 < CALLS; i += 2) {
            book.zone(0, i / 2 % 2, 3, 5, 10, 5);
            Checks.due("busy of a full book, call " + (i + 1), book.busy(7 * 1440, 7 * 1440 + 144000), 800);
        }
    }
}
