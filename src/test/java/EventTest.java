/** Promise 4: what event answers, throws and leaves typed. */
public final class EventTest {
    public static void main(String[] args) {
        numbersThem();
        emptiesWhatWasTyped();
        refusesWrongArguments();
        emptiesWhatWasTypedWhenItRefuses();
        refusesTheNinth();
        Checks.finish("EventTest");
    }

    private static void numbersThem() {
        RecurrenceBook book = new RecurrenceBook();
        Checks.due("event at the low edges", book.event(0, 0, 1), 0);
        Checks.due("event at the high edges", book.event(36524, 1439, 2880), 1);
        Checks.throwsArgument("event(-1, 0, 1)", () -> book.event(-1, 0, 1));
        Checks.due("event behind one that was refused", book.event(5, 5, 5), 2);
        Checks.daysDue("event 0", book, 0, 0);
        Checks.daysDue("event 1", book, 1, 36524);
        Checks.daysDue("event 2", book, 2, 5);
    }

    private static void emptiesWhatWasTyped() {
        RecurrenceBook book = new RecurrenceBook();
        Checks.event(book, "FREQ=DAILY;COUNT=2", 3);
        book.event(9, 0, 1);
        Checks.daysDue("typed rule", book, 0, 3, 4);
        Checks.daysDue("empty rule behind it", book, 1, 9);
    }

    private static void refusesWrongArguments() {
        RecurrenceBook book = new RecurrenceBook();
        int[][] wrong = {{-1, 0, 1}, {36525, 0, 1}, {0, -1, 1}, {0, 1440, 1}, {0, 0, 0}, {0, 0, -1}, {0, 0, 2881},
            {Integer.MIN_VALUE, 0, 1}, {Integer.MAX_VALUE, 0, 1}, {0, Integer.MAX_VALUE, 1}, {0, 0, Integer.MAX_VALUE}};
        for (int[] a : wrong) {
            Checks.throwsArgument("event(" + a[0] + ", " + a[1] + ", " + a[2] + ")", () -> book.event(a[0], a[1], a[2]));
        }
        Checks.throwsElement("times(0) after refusals", () -> book.times(0));
    }

    private static void emptiesWhatWasTypedWhenItRefuses() {
        RecurrenceBook book = new RecurrenceBook();
        String rule = "FREQ=DAILY;COUNT=2";
        int[][] wrong = {{-1, 0, 1}, {0, 1440, 1}, {0, 0, 0}};
        int made = 0;
        for (int[] a : wrong) {
            Checks.type(book, rule);
            Checks.throwsArgument("event with a rule", () -> book.event(a[0], a[1], a[2]));
            Checks.due("event of nothing", book.event(4, 0, 1), made);
            Checks.daysDue("event of nothing", book, made, 4);
            made++;
        }
        Checks.type(book, "FREQ=DAILY;COUNT=");
        Checks.throwsArgument("event of no rule", () -> book.event(0, 0, 1));
        Checks.type(book, "FREQ=DAILY;COUNT=2");
        Checks.daysDue("event behind no rule", book, book.event(6, 0, 1), 6, 7);
    }

    private static void refusesTheNinth() {
        RecurrenceBook book = new RecurrenceBook();
        for (int i = 0; i < 8; i++) {
            Checks.due("event " + i, book.event(i, 0, 1), i);
        }
        Checks.throwsState("event 8", () -> book.event(0, 0, 1));
        Checks.throwsState("event 8 with wrong arguments", () -> book.event(-1, -1, -1));
        for (int i = 0; i < 59; i++) {
            book.type('x');
        }
        Checks.throwsState("event 8 of no rule", () -> book.event(0, 0, 1));
        Checks.due("type of the 60th, for what was typed stays", book.type('x'), true);
        Checks.due("type of the 61st", book.type('x'), false);
        Checks.throwsElement("times(8)", () -> book.times(8));
        Checks.daysDue("event 7", book, 7, 7);
    }
}
