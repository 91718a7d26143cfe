/** Promises 11 and 12: busy and span. */
public final class BusyTest {
    public static void main(String[] args) {
        putsSpansTogether();
        cutsAtBoth();
        refusesWidths();
        keepsTheLatest();
        refusesSpans();
        ordersByMoment();
        holdsManySpans();
        Checks.finish("BusyTest");
    }

    private static void putsSpansTogether() {
        RecurrenceBook book = new RecurrenceBook();
        book.event(0, 600, 60);
        Checks.spansDue("one", book, book.busy(0, 3000), 600, 660);
        book.event(0, 660, 40);
        Checks.spansDue("touching", book, book.busy(0, 3000), 600, 700);
        book.event(0, 701, 9);
        Checks.spansDue("a minute between", book, book.busy(0, 3000), 600, 700, 701, 710);
        book.event(0, 100, 20);
        Checks.spansDue("an earlier one", book, book.busy(0, 3000), 100, 120, 600, 700, 701, 710);
        book.event(0, 610, 10);
        Checks.spansDue("one within", book, book.busy(0, 3000), 100, 120, 600, 700, 701, 710);
        book.event(0, 110, 2880);
        Checks.spansDue("one over all", book, book.busy(0, 3000), 100, 2990);
        Checks.event(book, "FREQ=DAILY;COUNT=3", 10, 0, 1440);
        Checks.spansDue("days that touch", book, book.busy(3000, 30000), 14400, 18720);
        Checks.event(book, "FREQ=DAILY;COUNT=3", 20, 0, 2880);
        Checks.spansDue("days that overlap", book, book.busy(20000, 50000), 28800, 34560);
    }

    private static void cutsAtBoth() {
        RecurrenceBook book = new RecurrenceBook();
        book.event(0, 100, 100);
        Checks.spansDue("whole", book, book.busy(100, 200), 100, 200);
        Checks.spansDue("cut at from", book, book.busy(150, 300), 150, 200);
        Checks.spansDue("cut at to", book, book.busy(0, 150), 100, 150);
        Checks.spansDue("cut at both", book, book.busy(120, 130), 120, 130);
        Checks.spansDue("from at its end", book, book.busy(200, 300));
        Checks.spansDue("to at its begin", book, book.busy(0, 100));
        Checks.spansDue("its first moment", book, book.busy(0, 101), 100, 101);
        Checks.spansDue("its last moment", book, book.busy(199, 300), 199, 200);
        Checks.spansDue("below 0", book, book.busy(-500, 101), 100, 101);
        book.event(0, 90, 50);
        Checks.spansDue("two that begin before from", book, book.busy(120, 300), 120, 200);
        book.zone(840, 840, 3, 5, 10, 5);
        Checks.spansDue("moments below 0", book, book.busy(-745, 0), -745, -640);
    }

    private static void refusesWidths() {
        RecurrenceBook book = new RecurrenceBook();
        int[][] wrong = {{0, 0}, {5, 4}, {0, 200001}, {-1, 200000}, {Integer.MIN_VALUE, Integer.MAX_VALUE},
            {Integer.MAX_VALUE, Integer.MIN_VALUE}, {Integer.MIN_VALUE, 0}, {-2000000000, 2000000000}};
        for (int[] a : wrong) {
            Checks.throwsArgument("busy(" + a[0] + ", " + a[1] + ")", () -> book.busy(a[0], a[1]));
        }
        Checks.due("busy of the widest", book.busy(0, 200000), 0);
        Checks.due("busy of one moment", book.busy(0, 1), 0);
        Checks.due("busy at the lowest", book.busy(Integer.MIN_VALUE, Integer.MIN_VALUE + 200000), 0);
        Checks.due("busy at the highest", book.busy(Integer.MAX_VALUE - 200000, Integer.MAX_VALUE), 0);
    }

    private static void keepsTheLatest() {
        RecurrenceBook book = new RecurrenceBook();
        book.event(1, 0, 10);
        book.event(2, 0, 10);
        int count = book.busy(0, 5000);
        Checks.throwsArgument("busy(9, 9)", () -> book.busy(9, 9));
        Checks.spansDue("after one that threw", book, count, 1440, 1450, 2880, 2890);
        book.exclude(0, 1);
        book.zone(60, 60, 3, 5, 10, 5);
        book.event(3, 0, 10);
        book.clash(1, 2);
        Checks.spansDue("after changes", book, count, 1440, 1450, 2880, 2890);
        Checks.spansDue("worked out again", book, book.busy(0, 5000), 2820, 2830, 4260, 4270);
        Checks.spansDue("worked out where nothing is", book, book.busy(0, 1));
    }

    private static void refusesSpans() {
        RecurrenceBook book = new RecurrenceBook();
        book.event(0, 0, 10);
        Checks.throwsElement("span before any busy", () -> book.span(0, false));
        book.busy(0, 100);
        int[] none = {1, -1, Integer.MIN_VALUE, Integer.MAX_VALUE, 1600};
        for (int k : none) {
            Checks.throwsElement("span(" + k + ", false)", () -> book.span(k, false));
            Checks.throwsElement("span(" + k + ", true)", () -> book.span(k, true));
        }
    }

    private static void ordersByMoment() {
        RecurrenceBook book = new RecurrenceBook();
        Checks.event(book, "FREQ=DAILY;COUNT=2", 85, 600, 60);
        book.zone(-840, 840, 3, 5, 10, 5);
        Checks.spansDue("a later day first", book, book.busy(120000, 130000), 123600, 123660, 123840, 123900);
    }

    private static void holdsManySpans() {
        RecurrenceBook book = new RecurrenceBook();
        for (int i = 0; i < 8; i++) {
            Checks.event(book, "FREQ=DAILY", 0, 100 * i, 50);
        }
        Checks.due("busy", book.busy(0, 200000), 1112);
        Checks.due("begin of the last span", book.span(1111, false), 138 * 1440 + 700);
        Checks.due("end of the last span", book.span(1111, true), 138 * 1440 + 750);
    }
}
