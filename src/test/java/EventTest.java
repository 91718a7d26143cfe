/** Promise 4: what event answers, throws and leaves typed. */
public final class EventTest {
    private static final int LOWEST = Integer.MIN_VALUE;
    private static final int HIGHEST = Integer.MAX_VALUE;

    public static void main(String[] args) {
        numbersThem();
        emptiesWhatWasTyped();
        refusesDays();
        refusesMinutes();
        refusesLengths();
        refusesWhatIsNoRule();
        refusesSeveralAtOnce();
        emptiesSixtyCharactersWhenItRefuses();
        givesNoNumberToOneThatWasRefused();
        takesTheEighthAndRefusesTheNinth();
        keepsWhatWasTypedWhenItIsFull();
        refusesTheNinthWhateverItIs();
        keepsEachEventsOwn();
        Checks.finish("EventTest");
    }

    private static String call(int day, int minute, int length) {
        return "event(" + day + ", " + minute + ", " + length + ")";
    }

    /** Throws, makes no event, leaves nothing typed and all else as it was: with a rule typed, and with none. */
    private static void refuses(int day, int minute, int length) {
        Untouched.butForTyped(call(day, minute, length), Checks.ARGUMENT, book -> book.event(day, minute, length));
        RecurrenceBook book = new RecurrenceBook();
        Checks.throwsArgument(call(day, minute, length) + " of the empty text", () -> book.event(day, minute, length));
        Checks.throwsElement("times(0) behind it", () -> book.times(0));
        Checks.typedDue("behind " + call(day, minute, length), book, 0);
    }

    /** Makes an event with this day, minute and length. */
    private static void takes(int day, int minute, int length) {
        RecurrenceBook book = new RecurrenceBook();
        Checks.due(call(day, minute, length), book.event(day, minute, length), 0);
        Checks.daysDue(call(day, minute, length), book, 0, day);
        int start = 1440 * day + minute;
        Checks.due(call(day, minute, length) + ": moment", book.moment(0, 0), start);
        Checks.spansDue(call(day, minute, length), book, book.busy(start - 10, start + 5000), start, start + length);
    }

    /** "A new event ..: its number" */
    private static void numbersThem() {
        RecurrenceBook book = new RecurrenceBook();
        for (int i = 0; i < 8; i++) {
            Checks.due("event " + i, book.event(100 + i, 0, 1), i);
            Checks.daysDue("event " + i, book, i, 100 + i);
        }
    }

    /** "by the rule that was typed (which is empty then)" */
    private static void emptiesWhatWasTyped() {
        RecurrenceBook book = new RecurrenceBook();
        Checks.event(book, "FREQ=DAILY;COUNT=2", 3);
        book.event(9, 0, 1);
        Checks.daysDue("typed rule", book, 0, 3, 4);
        Checks.daysDue("empty rule behind it", book, 1, 9);
        Checks.event(book, "FREQ=WEEKLY;COUNT=2", 3);
        Checks.daysDue("another rule behind it", book, 2, 3, 10);
        Checks.typedDue("behind an event", book, 0);
    }

    /** "when day is not 0 .. 36524" */
    private static void refusesDays() {
        refuses(-1, 0, 1);
        takes(0, 0, 1);
        takes(36524, 0, 1);
        refuses(36525, 0, 1);
        refuses(LOWEST, 0, 1);
        refuses(HIGHEST, 0, 1);
    }

    /** "minute not 0 .. 1439" */
    private static void refusesMinutes() {
        refuses(5, -1, 1);
        takes(5, 0, 1);
        takes(5, 1439, 1);
        refuses(5, 1440, 1);
        refuses(5, LOWEST, 1);
        refuses(5, HIGHEST, 1);
    }

    /** "length not 1 .. 2880" */
    private static void refusesLengths() {
        refuses(5, 5, -1);
        refuses(5, 5, 0);
        takes(5, 5, 1);
        takes(5, 5, 2880);
        refuses(5, 5, 2881);
        refuses(5, 5, LOWEST);
        refuses(5, 5, HIGHEST);
        takes(0, 0, 2880);
        takes(36524, 1439, 2880);
    }

    /** "or what was typed is no rule": the last character is one too many for the rule that stood there. */
    private static void refusesWhatIsNoRule() {
        Untouched.butForTyped("event of no rule", Checks.ARGUMENT, book -> {
            Checks.type(book, "x");
            book.event(5, 5, 5);
        });
        RecurrenceBook book = new RecurrenceBook();
        Checks.type(book, "FREQ=DAILY;COUNT=");
        Checks.throwsArgument("event of no rule", () -> book.event(0, 0, 1));
        Checks.daysDue("a rule behind no rule", book, Checks.event(book, "FREQ=DAILY;COUNT=2", 6), 6, 7);
    }

    /** "(nothing is typed then, whichever of these it is)" */
    private static void refusesSeveralAtOnce() {
        refuses(-1, -1, 0);
        refuses(36525, 1440, 2881);
        Untouched.butForTyped("event of no rule, on no day", Checks.ARGUMENT, book -> {
            Checks.type(book, "x");
            book.event(-1, 1440, 0);
        });
    }

    private static void emptiesSixtyCharactersWhenItRefuses() {
        int[][] calls = {{0, 0, 1}, {-1, 0, 1}, {0, -1, 1}, {0, 0, 0}};
        for (int[] a : calls) {
            RecurrenceBook book = new RecurrenceBook();
            Checks.typedDue("a new object", book, 0);
            Checks.throwsArgument(call(a[0], a[1], a[2]) + " of 60 x", () -> book.event(a[0], a[1], a[2]));
            Checks.typedDue("behind 60 x", book, 0);
        }
    }

    private static void givesNoNumberToOneThatWasRefused() {
        RecurrenceBook book = new RecurrenceBook();
        book.event(1, 0, 1);
        Checks.throwsArgument("event(-1, 0, 1)", () -> book.event(-1, 0, 1));
        Checks.type(book, "no rule");
        Checks.throwsArgument("event of no rule", () -> book.event(0, 0, 1));
        Checks.throwsElement("times(1)", () -> book.times(1));
        Checks.due("event behind those that were refused", book.event(5, 5, 5), 1);
        Checks.daysDue("event 0", book, 0, 1);
        Checks.daysDue("event 1", book, 1, 5);
    }

    private static RecurrenceBook full() {
        RecurrenceBook book = new RecurrenceBook();
        for (int i = 0; i < 8; i++) {
            Checks.due("event " + i, book.event(i, 10 * i, 1), i);
        }
        return book;
    }

    /** "Throws IllegalStateException when there are 8 events" */
    private static void takesTheEighthAndRefusesTheNinth() {
        RecurrenceBook book = full();
        Checks.daysDue("event 7", book, 7, 7);
        Untouched.sameAround("the ninth event", Checks.STATE, book, same -> same.event(0, 0, 1));
        Checks.throwsElement("times(8)", () -> book.times(8));
        Checks.due("an excluded day makes no room", book.exclude(0, 0), true);
        Checks.throwsState("the ninth event again", () -> book.event(0, 0, 1));
    }

    /** "(what was typed stays)": nothing, some characters, and sixty. */
    private static void keepsWhatWasTypedWhenItIsFull() {
        int[] typed = {0, 1, 18, 59, 60};
        for (int count : typed) {
            RecurrenceBook book = full();
            for (int i = 0; i < count; i++) {
                book.type("FREQ=DAILY;COUNT=2".charAt(i % 18));
            }
            Checks.throwsState("the ninth event with " + count + " typed", () -> book.event(0, 0, 1));
            Checks.throwsState("the ninth event again with " + count + " typed", () -> book.event(-1, 0, 1));
            Checks.typedDue("a full book with " + count + " typed", book, count);
        }
    }

    /** Full is full: what is wrong besides does not make it another exception, nor empty what was typed. */
    private static void refusesTheNinthWhateverItIs() {
        int[][] calls = {{-1, 0, 1}, {36525, 0, 1}, {0, -1, 1}, {0, 1440, 1}, {0, 0, 0}, {0, 0, 2881}, {-1, -1, -1}};
        RecurrenceBook book = full();
        Checks.type(book, "no rule");
        for (int[] a : calls) {
            Checks.throwsState("the ninth: " + call(a[0], a[1], a[2]), () -> book.event(a[0], a[1], a[2]));
        }
        Checks.typedDue("what was typed", book, 7);
    }

    private static void keepsEachEventsOwn() {
        RecurrenceBook book = new RecurrenceBook();
        Checks.event(book, "FREQ=DAILY;COUNT=3", 0, 60, 30);
        Checks.event(book, "FREQ=WEEKLY;COUNT=2", 1, 90, 5);
        Checks.daysDue("event 0", book, 0, 0, 1, 2);
        Checks.daysDue("event 1", book, 1, 1, 8);
        Checks.due("moment(0, 1)", book.moment(0, 1), 1500);
        Checks.due("moment(1, 0)", book.moment(1, 0), 1530);
        Checks.spansDue("busy", book, book.busy(1440, 2880), 1500, 1535);
    }
}
