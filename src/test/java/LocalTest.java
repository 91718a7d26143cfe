/** Promise 9: "The local time of a moment: plus SUMMER if it is in summer, otherwise plus STANDARD (ints wrap)." */
public final class LocalTest {
    public static void main(String[] args) {
        addsTheOffset();
        changesAtTheMinute();
        wrapsAboveTheHighestInt();
        wrapsBelowTheLowestInt();
        takesMomentsOfNoDay();
        isTheWayBackFromALocalTime();
        leavesAllAsItWas();
        Checks.finish("LocalTest");
    }

    private static void addsTheOffset() {
        RecurrenceBook book = new RecurrenceBook();
        Checks.due("local in a new object", book.local(12345), 12345);
        book.zone(-300, -240, 3, 2, 11, 1);
        Checks.due("local in winter", book.local(1440), 1140);
        Checks.due("local in summer", book.local(1440 * 180), 1440 * 180 - 240);
        Checks.due("local of moment 0", book.local(0), -300);
    }

    private static void changesAtTheMinute() {
        RecurrenceBook book = new RecurrenceBook();
        book.zone(60, 120, 3, 5, 10, 5);
        Checks.due("local before the begin", book.local(122459), 122519);
        Checks.due("local at the begin", book.local(122460), 122580);
        Checks.due("local before the end", book.local(434939), 435059);
        Checks.due("local at the end", book.local(434940), 435000);
    }

    private static void wrapsAboveTheHighestInt() {
        RecurrenceBook book = new RecurrenceBook();
        book.zone(60, 120, 3, 5, 10, 5);
        Checks.due("local of the last that does not wrap", book.local(Integer.MAX_VALUE - 60), Integer.MAX_VALUE);
        Checks.due("local of the first that wraps", book.local(Integer.MAX_VALUE - 59), Integer.MIN_VALUE);
        Checks.due("local of the highest int", book.local(Integer.MAX_VALUE), Integer.MIN_VALUE + 59);
        Checks.due("local of the lowest int", book.local(Integer.MIN_VALUE), Integer.MIN_VALUE + 60);
        book.zone(840, 840, 1, 1, 12, 5);
        Checks.due("local of the highest int, widely", book.local(Integer.MAX_VALUE), Integer.MIN_VALUE + 839);
    }

    private static void wrapsBelowTheLowestInt() {
        RecurrenceBook book = new RecurrenceBook();
        book.zone(-60, 0, 3, 5, 10, 5);
        Checks.due("local of the last that does not wrap", book.local(Integer.MIN_VALUE + 60), Integer.MIN_VALUE);
        Checks.due("local of the first that wraps", book.local(Integer.MIN_VALUE + 59), Integer.MAX_VALUE);
        Checks.due("local of the lowest int", book.local(Integer.MIN_VALUE), Integer.MAX_VALUE - 59);
        Checks.due("local of the highest int", book.local(Integer.MAX_VALUE), Integer.MAX_VALUE - 60);
        book.zone(-840, -840, 1, 1, 12, 5);
        Checks.due("local of the lowest int, widely", book.local(Integer.MIN_VALUE), Integer.MAX_VALUE - 839);
    }

    /** Moments before and behind the years have no summer. */
    private static void takesMomentsOfNoDay() {
        RecurrenceBook book = new RecurrenceBook();
        book.zone(30, 60, 1, 1, 12, 5);
        int[] moments = {-1, -7, -1440, -1440 * 180, -1440 * 400, 1440 * 36525, 1440 * (36525 + 180), 1440 * 40000, -2000000000, 2000000000};
        for (int moment : moments) {
            Checks.due("local(" + moment + ")", book.local(moment), moment + 30);
        }
    }

    private static void isTheWayBackFromALocalTime() {
        RecurrenceBook book = new RecurrenceBook();
        book.zone(-210, -150, 3, 2, 11, 1);
        Checks.event(book, "FREQ=MONTHLY;INTERVAL=5", 14, 615, 1);
        for (int k = 0; k < 100; k++) {
            Checks.due("local of moment " + k, book.local(book.moment(0, k)), 1440 * book.day(0, k) + 615);
        }
    }

    private static void leavesAllAsItWas() {
        int[] moments = {0, 122460, Integer.MIN_VALUE, Integer.MAX_VALUE};
        for (int moment : moments) {
            Untouched.by("local(" + moment + ")", Checks.NOTHING, book -> book.local(moment));
        }
    }
}
