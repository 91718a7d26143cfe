/** Promise 9: local. */
public final class LocalTest {
    public static void main(String[] args) {
        addsTheOffset();
        changesAtTheMinute();
        wraps();
        knowsNoSummerOutsideTheYears();
        Checks.finish("LocalTest");
    }

    private static void addsTheOffset() {
        RecurrenceBook book = new RecurrenceBook();
        Checks.due("local in a new object", book.local(12345), 12345);
        book.zone(-300, -240, 3, 2, 11, 1);
        Checks.due("local in winter", book.local(1440), 1140);
        Checks.due("local in summer", book.local(1440 * 180), 1440 * 180 - 240);
        Checks.due("local of a moment below 0", book.local(-7), -307);
    }

    private static void changesAtTheMinute() {
        RecurrenceBook book = new RecurrenceBook();
        book.zone(60, 120, 3, 5, 10, 5);
        Checks.due("local before the begin", book.local(122459), 122519);
        Checks.due("local at the begin", book.local(122460), 122580);
        Checks.due("local before the end", book.local(434939), 435059);
        Checks.due("local at the end", book.local(434940), 435000);
        int lastBegin = 1440 * book.date(2099, 3, 29) + 60;
        int lastEnd = 1440 * book.date(2099, 10, 25) + 60;
        Checks.due("local before the last begin", book.local(lastBegin - 1), lastBegin + 59);
        Checks.due("local at the last begin", book.local(lastBegin), lastBegin + 120);
        Checks.due("local before the last end", book.local(lastEnd - 1), lastEnd + 119);
        Checks.due("local at the last end", book.local(lastEnd), lastEnd + 60);
    }

    private static void wraps() {
        RecurrenceBook book = new RecurrenceBook();
        book.zone(60, 120, 3, 5, 10, 5);
        Checks.due("local of the highest int", book.local(Integer.MAX_VALUE), Integer.MIN_VALUE + 59);
        Checks.due("local of the lowest int", book.local(Integer.MIN_VALUE), Integer.MIN_VALUE + 60);
        book.zone(-60, 0, 3, 5, 10, 5);
        Checks.due("local of the lowest int", book.local(Integer.MIN_VALUE), Integer.MAX_VALUE - 59);
    }

    private static void knowsNoSummerOutsideTheYears() {
        RecurrenceBook book = new RecurrenceBook();
        book.zone(0, 60, 3, 5, 10, 5);
        Checks.due("local in the summer of 2100", book.local(1440 * (36525 + 180)), 1440 * (36525 + 180));
        Checks.due("local in the summer of 1999", book.local(-1440 * 180), -1440 * 180);
    }
}
