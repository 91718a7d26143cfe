import java.time.LocalDate;

/** Promise 10: "The day with a date; -1 when there is none such in these years (30 February, month 0)." */
public final class DateTest {
    private static final int LOWEST = Integer.MIN_VALUE;
    private static final int HIGHEST = Integer.MAX_VALUE;

    public static void main(String[] args) {
        answersEveryDay();
        knowsTheFirstAndTheLastDay();
        knowsTheLengthOfEveryMonth();
        givesEveryFourthYearALeapDay();
        refusesYears();
        refusesMonths();
        refusesNumbers();
        leavesAllAsItWas();
        Checks.finish("DateTest");
    }

    private static void dateDue(int year, int month, int number, int due) {
        RecurrenceBook book = new RecurrenceBook();
        Checks.due("date(" + year + ", " + month + ", " + number + ")", book.date(year, month, number), due);
    }

    private static void answersEveryDay() {
        LocalDate date = LocalDate.of(2000, 1, 1);
        RecurrenceBook book = new RecurrenceBook();
        for (int day = 0; day <= 36524; day++) {
            // A new one for each year, for an object is used for at most 512 calls.
            if (date.getDayOfYear() == 1) {
                book = new RecurrenceBook();
            }
            Checks.due("date of " + date, book.date(date.getYear(), date.getMonthValue(), date.getDayOfMonth()), day);
            date = date.plusDays(1);
        }
        Checks.due("the year behind the last day", date.getYear(), 2100);
    }

    /** "DAYS count from 0, .. 1 January 2000, to 36524, 31 December 2099" */
    private static void knowsTheFirstAndTheLastDay() {
        dateDue(1999, 12, 31, -1);
        dateDue(2000, 1, 1, 0);
        dateDue(2000, 1, 2, 1);
        dateDue(2099, 12, 30, 36523);
        dateDue(2099, 12, 31, 36524);
        dateDue(2100, 1, 1, -1);
    }

    /** The last number of each month is a date, the one behind it is none. */
    private static void knowsTheLengthOfEveryMonth() {
        for (int year = 2000; year < 2100; year++) {
            RecurrenceBook book = new RecurrenceBook();
            for (int month = 1; month <= 12; month++) {
                int length = LocalDate.of(year, month, 1).lengthOfMonth();
                String what = " of month " + month + " of " + year;
                Checks.due("number 0" + what, book.date(year, month, 0), -1);
                Checks.due("number 1" + what, book.date(year, month, 1), Checks.on(year, month, 1));
                Checks.due("the last number" + what, book.date(year, month, length), Checks.on(year, month, length));
                Checks.due("the number behind the last" + what, book.date(year, month, length + 1), -1);
                Checks.due("number 32" + what, book.date(year, month, 32), -1);
            }
        }
    }

    /** "(every fourth year, from 2000 on, has 29 February)"; none has 30 February. */
    private static void givesEveryFourthYearALeapDay() {
        for (int year = 2000; year < 2100; year++) {
            boolean leap = (year - 2000) % 4 == 0;
            RecurrenceBook book = new RecurrenceBook();
            int first = book.date(year, 3, 1);
            Checks.due("28 February " + year, book.date(year, 2, 28), first - (leap ? 2 : 1));
            Checks.due("29 February " + year, book.date(year, 2, 29), leap ? first - 1 : -1);
            Checks.due("30 February " + year, book.date(year, 2, 30), -1);
        }
    }

    private static void refusesYears() {
        int[] none = {1999, 2100, 0, -1, 1, 99, -2000, 2104, 1996, LOWEST, HIGHEST, LOWEST + 2000, HIGHEST - 2000, 2000 + (1 << 30)};
        for (int year : none) {
            dateDue(year, 1, 1, -1);
            dateDue(year, 12, 31, -1);
            dateDue(year, 2, 29, -1);
        }
    }

    /** Not even where the month would be one of the year before or behind it. */
    private static void refusesMonths() {
        int[] none = {0, 13, -1, 14, 24, -12, LOWEST, HIGHEST, 1 + (1 << 30), LOWEST + 1};
        for (int month : none) {
            dateDue(2000, month, 1, -1);
            dateDue(2050, month, 1, -1);
            dateDue(2099, month, 1, -1);
        }
        dateDue(1999, 13, 1, -1);
        dateDue(2100, 0, 1, -1);
        dateDue(2000, 1, 5, 4);
        dateDue(2000, 12, 5, 339);
    }

    private static void refusesNumbers() {
        int[] none = {0, 32, -1, 33, 60, LOWEST, HIGHEST, LOWEST + 1, HIGHEST - 1};
        for (int number : none) {
            dateDue(2000, 1, number, -1);
            dateDue(2050, 6, number, -1);
            dateDue(2099, 12, number, -1);
        }
    }

    private static void leavesAllAsItWas() {
        Untouched.by("date(2000, 2, 29)", Checks.NOTHING, book -> book.date(2000, 2, 29));
        Untouched.by("date(2000, 2, 30)", Checks.NOTHING, book -> book.date(2000, 2, 30));
        Untouched.by("date(2000, 0, 1)", Checks.NOTHING, book -> book.date(2000, 0, 1));
        Untouched.by("date of the lowest ints", Checks.NOTHING, book -> book.date(LOWEST, LOWEST, LOWEST));
    }
}
