import java.time.LocalDate;

/** Promise 10: date. */
public final class DateTest {
    public static void main(String[] args) {
        answersEveryDay();
        refusesWhatIsNoDate();
        Checks.finish("DateTest");
    }

    private static void answersEveryDay() {
        RecurrenceBook book = new RecurrenceBook();
        LocalDate date = LocalDate.of(2000, 1, 1);
        for (int day = 0; day <= 36524; day++) {
            Checks.due("date of " + date, book.date(date.getYear(), date.getMonthValue(), date.getDayOfMonth()), day);
            date = date.plusDays(1);
        }
        Checks.due("the year behind the last day", date.getYear(), 2100);
    }

    private static void refusesWhatIsNoDate() {
        RecurrenceBook book = new RecurrenceBook();
        int[][] none = {{2000, 2, 30}, {2001, 2, 29}, {2100, 2, 29}, {2000, 0, 1}, {2000, 13, 1}, {2000, 1, 0}, {2000, 1, 32},
            {2000, 4, 31}, {1999, 12, 31}, {2100, 1, 1}, {0, 1, 1}, {2000, -1, 1}, {2000, 1, -1}, {2000, 12, 32},
            {Integer.MIN_VALUE, 1, 1}, {Integer.MAX_VALUE, 1, 1}, {2000, Integer.MIN_VALUE, 1}, {2000, Integer.MAX_VALUE, 1},
            {2000, 1, Integer.MIN_VALUE}, {2000, 1, Integer.MAX_VALUE}};
        for (int[] a : none) {
            Checks.due("date(" + a[0] + ", " + a[1] + ", " + a[2] + ")", book.date(a[0], a[1], a[2]), -1);
        }
    }
}
