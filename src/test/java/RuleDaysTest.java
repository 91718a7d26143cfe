import java.time.LocalDate;

/** Promise 4 with the terms: which days a rule means. Day 0 is Saturday, 1 January 2000. */
public final class RuleDaysTest {
    private static final String[] WEEKDAYS = {"MO", "TU", "WE", "TH", "FR", "SA", "SU"};

    public static void main(String[] args) {
        meansOneDayByTheEmptyText();
        knowsTheWeekdays();
        knowsTheMonthAndNumberOfEveryFirstDay();
        beginsWeeksWithMonday();
        daily();
        weekly();
        monthly();
        yearly();
        takesAnIntervalOfOneWithoutIt();
        stepsByIntervals();
        stepsFromThePeriodOfTheFirstDay();
        looksOnlyAtPartsThatAreThere();
        countsMonthDaysFromTheEnd();
        countsWeekdaysOfTheMonth();
        meansNoDayInAMonthThatHasNone();
        leavesOutDaysBeforeTheFirst();
        endsWithUntil();
        endsWithTheLastDay();
        endsWithCount();
        endsWithTwoHundred();
        countsOnlyDaysThatAreMeant();
        Checks.finish("RuleDaysTest");
    }

    private static void days(String text, int first, int... days) {
        RecurrenceBook book = new RecurrenceBook();
        Checks.daysDue(text + " from " + first, book, Checks.event(book, text, first), days);
    }

    /** "(The empty text: D alone.)" */
    private static void meansOneDayByTheEmptyText() {
        days("", 0, 0);
        days("", 59, 59);
        days("", 36524, 36524);
    }

    /** Every weekday, in the first and in the last week: day 0 is SA, day 36524 is TH. */
    private static void knowsTheWeekdays() {
        for (int day = 0; day < 7; day++) {
            days("FREQ=DAILY;COUNT=1;BYDAY=" + WEEKDAYS[(day + 5) % 7], 0, day);
            days("FREQ=DAILY;BYDAY=" + WEEKDAYS[(day + 5) % 7], 36518, 36518 + (day + 1) % 7);
        }
    }

    /** A year with 29 February, one without, and the last one. */
    private static void knowsTheMonthAndNumberOfEveryFirstDay() {
        LocalDate date = LocalDate.of(2000, 1, 1);
        for (int day = 0; day <= 36524; day++) {
            if (date.getYear() < 2002 || date.getYear() == 2099) {
                days("FREQ=DAILY;COUNT=1;BYMONTH=" + date.getMonthValue() + ";BYMONTHDAY=" + date.getDayOfMonth(), day, day);
                days("FREQ=MONTHLY;COUNT=1", day, day);
                days("FREQ=YEARLY;COUNT=1", day, day);
            }
            date = date.plusDays(1);
        }
    }

    /** "weeks begin with MO": SU, day 1, is in the week of day 0, and MO, day 2, in the next one. */
    private static void beginsWeeksWithMonday() {
        days("FREQ=WEEKLY;INTERVAL=2;BYDAY=SU;COUNT=2", 0, 1, 15);
        days("FREQ=WEEKLY;INTERVAL=2;BYDAY=MO;COUNT=2", 0, 9, 23);
        days("FREQ=WEEKLY;INTERVAL=2;BYDAY=MO;COUNT=2", 1, 9, 23);
        days("FREQ=WEEKLY;INTERVAL=2;BYDAY=MO;COUNT=2", 2, 2, 16);
        days("FREQ=WEEKLY;INTERVAL=2;BYDAY=SU;COUNT=2", 2, 8, 22);
    }

    private static void daily() {
        days("FREQ=DAILY;COUNT=3", 5, 5, 6, 7);
        days("FREQ=DAILY;BYDAY=SU,MO;COUNT=4", 0, 1, 2, 8, 9);
        days("FREQ=DAILY;INTERVAL=2;BYDAY=SU;COUNT=2", 0, 8, 22);
        days("FREQ=DAILY;BYMONTHDAY=-1;COUNT=4", 0, 30, 59, 90, 120);
        days("FREQ=DAILY;BYMONTHDAY=-29,1;BYMONTH=2;COUNT=3", 0, 31, 397, 762);
        days("FREQ=DAILY;BYMONTHDAY=31,-31;BYDAY=SU;COUNT=3", 0, 274, 365, 547);
        days("FREQ=DAILY;BYMONTH=2;BYMONTHDAY=30", 0);
        days("FREQ=DAILY;BYMONTH=12,3;INTERVAL=30;COUNT=4", 0, 60, 90, 360, 450);
        days("FREQ=DAILY;BYMONTH=2;COUNT=2", 30, 31, 32);
        days("FREQ=DAILY;BYMONTH=1;COUNT=3", 29, 29, 30, 366);
    }

    private static void weekly() {
        days("FREQ=WEEKLY;COUNT=3", 0, 0, 7, 14);
        days("FREQ=WEEKLY;BYDAY=SU,MO;COUNT=3", 0, 1, 2, 8);
        days("FREQ=WEEKLY;INTERVAL=2;BYDAY=MO,SA;COUNT=4", 0, 0, 9, 14, 23);
        days("FREQ=WEEKLY;INTERVAL=2;BYDAY=MO,SU;COUNT=4", 2, 2, 8, 16, 22);
        days("FREQ=WEEKLY;BYDAY=SA,SU;BYMONTH=1,4;COUNT=12", 20, 21, 22, 28, 29, 91, 92, 98, 99, 105, 106, 112, 113);
        days("FREQ=WEEKLY;BYMONTH=2;COUNT=2", 29, 36, 43);
        // The week of MO, 31 January, to SU, 6 February, lies in two months, in either way.
        days("FREQ=WEEKLY;BYDAY=MO,TU;BYMONTH=2;COUNT=2", 28, 31, 37);
        days("FREQ=WEEKLY;BYDAY=MO,TU;BYMONTH=1;COUNT=2", 28, 30, 366);
    }

    private static void monthly() {
        days("FREQ=MONTHLY;COUNT=3", 30, 30, 90, 151);
        days("FREQ=MONTHLY;BYMONTHDAY=-1,1;COUNT=4", 1, 30, 31, 59, 60);
        days("FREQ=MONTHLY;BYDAY=1SA,-1MO;COUNT=4", 0, 0, 30, 35, 58);
        days("FREQ=MONTHLY;BYDAY=SA,1SU;COUNT=7", 0, 0, 1, 7, 14, 21, 28, 35);
        days("FREQ=MONTHLY;BYDAY=FR;BYMONTHDAY=13;COUNT=2", 0, 286, 468);
        days("FREQ=MONTHLY;BYDAY=SA,SU;BYMONTHDAY=1,2;BYMONTH=1,4;COUNT=3", 1, 1, 91, 92);
        days("FREQ=MONTHLY;BYDAY=2TU;COUNT=2", 11, 38, 73);
        days("FREQ=MONTHLY;BYMONTH=3;COUNT=2", 0, 60, 425);
        days("FREQ=MONTHLY;BYMONTHDAY=5;COUNT=2", 0, 4, 35);
    }

    private static void yearly() {
        days("FREQ=YEARLY;COUNT=3", 60, 60, 425, 790);
        days("FREQ=YEARLY;BYMONTH=12,2;COUNT=4", 0, 31, 335, 397, 700);
        days("FREQ=YEARLY;BYMONTHDAY=-1;COUNT=3", 35, 59, 424, 789);
        days("FREQ=YEARLY;BYDAY=1SU;COUNT=2", 35, 36, 400);
        days("FREQ=YEARLY;BYDAY=-1SU;BYMONTH=3,10;INTERVAL=2;COUNT=4", 85, 85, 302, 820, 1030);
        days("FREQ=YEARLY;BYDAY=SU;COUNT=5", 8, 8, 15, 22, 29, 372);
        days("FREQ=YEARLY;BYMONTH=2;BYMONTHDAY=-1", 36000, 36218);
        days("FREQ=YEARLY;BYMONTH=1;COUNT=2", 30, 30, 396);
        days("FREQ=YEARLY;BYMONTH=12;BYMONTHDAY=31;COUNT=2", 0, 365, 730);
    }

    /** "INTERVAL: .. (1 without it)" */
    private static void takesAnIntervalOfOneWithoutIt() {
        String[] frequencies = {"DAILY", "WEEKLY", "MONTHLY", "YEARLY"};
        int[][] due = {{0, 1, 2}, {0, 7, 14}, {0, 31, 60}, {0, 366, 731}};
        for (int i = 0; i < 4; i++) {
            days("FREQ=" + frequencies[i] + ";COUNT=3", 0, due[i]);
            days("INTERVAL=1;FREQ=" + frequencies[i] + ";COUNT=3", 0, due[i]);
        }
    }

    /** "D + k * INTERVAL; otherwise the week, month or year of D, and those INTERVAL weeks, months, years later" */
    private static void stepsByIntervals() {
        days("FREQ=DAILY;INTERVAL=2;COUNT=3", 5, 5, 7, 9);
        days("FREQ=DAILY;INTERVAL=99;COUNT=3", 5, 5, 104, 203);
        days("FREQ=WEEKLY;INTERVAL=2;COUNT=3", 5, 5, 19, 33);
        days("FREQ=WEEKLY;INTERVAL=99", 36524 - 693, 36524 - 693, 36524);
        days("FREQ=WEEKLY;INTERVAL=99", 36524 - 692, 36524 - 692);
        days("FREQ=MONTHLY;INTERVAL=2;COUNT=3", 30, 30, 90, 151);
        days("FREQ=MONTHLY;INTERVAL=3;COUNT=3", 30, 30, 212, 304);
        days("FREQ=MONTHLY;INTERVAL=99;COUNT=3", 0, 0, 3013, 6026);
        days("FREQ=YEARLY;INTERVAL=4;COUNT=3", 0, 0, 1461, 2922);
        days("FREQ=YEARLY;INTERVAL=99", 0, 0, 36160);
        days("FREQ=YEARLY;INTERVAL=99", 366, 366);
        days("FREQ=YEARLY;INTERVAL=98", 366, 366, 36160);
    }

    /** The period of D is the first one, wherever D is in it, and in whatever year. */
    private static void stepsFromThePeriodOfTheFirstDay() {
        int june = Checks.on(2001, 6, 10);
        days("FREQ=YEARLY;INTERVAL=2;BYMONTH=1,12;COUNT=4", june,
            Checks.on(2001, 12, 10), Checks.on(2003, 1, 10), Checks.on(2003, 12, 10), Checks.on(2005, 1, 10));
        days("FREQ=YEARLY;INTERVAL=50;BYMONTH=6,7", Checks.on(2048, 7, 1),
            Checks.on(2048, 7, 1), Checks.on(2098, 6, 1), Checks.on(2098, 7, 1));
        days("FREQ=YEARLY;INTERVAL=51;BYMONTH=1,12", Checks.on(2048, 12, 1),
            Checks.on(2048, 12, 1), Checks.on(2099, 1, 1), Checks.on(2099, 12, 1));
        days("FREQ=MONTHLY;INTERVAL=2;BYMONTHDAY=1,-1;COUNT=4", Checks.on(2001, 12, 31),
            Checks.on(2001, 12, 31), Checks.on(2002, 2, 1), Checks.on(2002, 2, 28), Checks.on(2002, 4, 1));
        days("FREQ=MONTHLY;INTERVAL=13;COUNT=3", Checks.on(2050, 12, 5),
            Checks.on(2050, 12, 5), Checks.on(2052, 1, 5), Checks.on(2053, 2, 5));
        // 30 December 2049 is a TH, and 31 a FR; the week goes on in 2050.
        days("FREQ=WEEKLY;INTERVAL=2;BYDAY=WE,FR,SU;COUNT=4", Checks.on(2049, 12, 30),
            Checks.on(2049, 12, 31), Checks.on(2050, 1, 2), Checks.on(2050, 1, 12), Checks.on(2050, 1, 14));
        days("FREQ=DAILY;INTERVAL=30;COUNT=3", Checks.on(2049, 12, 30),
            Checks.on(2049, 12, 30), Checks.on(2050, 1, 29), Checks.on(2050, 2, 28));
    }

    /** "(each only if it is there; so below)" */
    private static void looksOnlyAtPartsThatAreThere() {
        days("FREQ=DAILY;COUNT=2;BYMONTH=1", 0, 0, 1);
        days("FREQ=DAILY;COUNT=2;BYMONTHDAY=1", 0, 0, 31);
        days("FREQ=DAILY;COUNT=2;BYDAY=SA", 0, 0, 7);
        days("FREQ=DAILY;COUNT=2;BYDAY=SA;BYMONTHDAY=1", 0, 0, 91);
        days("FREQ=DAILY;COUNT=2;BYDAY=SA;BYMONTHDAY=1;BYMONTH=1", 0, 0, Checks.on(2005, 1, 1));
        days("FREQ=WEEKLY;COUNT=2;BYDAY=MO", 0, 2, 9);
        days("FREQ=WEEKLY;COUNT=2;BYMONTH=2", 0, 35, 42);
        days("FREQ=MONTHLY;COUNT=2;BYMONTHDAY=2", 0, 1, 32);
        days("FREQ=MONTHLY;COUNT=2;BYDAY=SU", 0, 1, 8);
        days("FREQ=MONTHLY;COUNT=2;BYDAY=SU;BYMONTHDAY=2", 0, 1, 92);
        days("FREQ=YEARLY;COUNT=2;BYMONTHDAY=2", 0, 1, 367);
        days("FREQ=YEARLY;COUNT=2;BYDAY=2SU", 0, 8, 379);
        days("FREQ=YEARLY;COUNT=2;BYMONTH=2", 0, 31, 397);
        days("FREQ=YEARLY;COUNT=2;BYMONTH=2;BYDAY=TU;BYMONTHDAY=1", 0, 31, Checks.on(2005, 2, 1));
    }

    /** "BYMONTHDAY -n means the n-th day from the month's end (1 the last one)" */
    private static void countsMonthDaysFromTheEnd() {
        days("FREQ=MONTHLY;BYMONTHDAY=-1;COUNT=4", 0, 30, 59, 90, 120);
        days("FREQ=MONTHLY;BYMONTHDAY=-2;COUNT=2", 0, 29, 58);
        days("FREQ=MONTHLY;BYMONTHDAY=-31;COUNT=2", 0, 0, 60);
        days("FREQ=MONTHLY;BYMONTHDAY=-30;COUNT=3", 0, 1, 61, 91);
        days("FREQ=MONTHLY;BYMONTHDAY=31,-31,1,-1;COUNT=4", 0, 0, 30, 31, 59);
        days("FREQ=YEARLY;BYMONTH=2;BYMONTHDAY=-1;COUNT=5", 0, 59, 424, 789, 1154, 1520);
        days("FREQ=YEARLY;BYMONTH=2;BYMONTHDAY=-29;COUNT=2", 0, 31, Checks.on(2004, 2, 1));
        days("FREQ=DAILY;BYMONTH=2;BYMONTHDAY=-28;COUNT=2", 0, 32, 397);
    }

    /** "BYDAY with a digit n the n-th of these weekdays in the month, with - the n-th from its end" */
    private static void countsWeekdaysOfTheMonth() {
        int[] saturdays = {0, 7, 14, 21, 28};
        for (int n = 1; n <= 5; n++) {
            days("FREQ=MONTHLY;COUNT=1;BYDAY=" + n + "SA", 0, saturdays[n - 1]);
            days("FREQ=MONTHLY;COUNT=1;BYDAY=-" + n + "SA", 0, saturdays[5 - n]);
        }
        days("FREQ=MONTHLY;COUNT=2;BYDAY=1SA,-5SA", 0, 0, 35);
        days("FREQ=MONTHLY;COUNT=3;BYDAY=5SA,-1SA", 0, 28, 56, 84);
        days("FREQ=MONTHLY;COUNT=2;BYDAY=1MO,1TU", 0, 2, 3);
        days("FREQ=MONTHLY;COUNT=3;BYDAY=1SA;BYMONTHDAY=1,2,3", 0, 0, 91, 154);
        // Of YEARLY it is the month's, not the year's.
        days("FREQ=YEARLY;COUNT=2;BYDAY=1SA;BYMONTH=2,3", 0, 35, 63);
        days("FREQ=YEARLY;COUNT=2;BYDAY=-1SA;BYMONTH=2,3", 0, 56, 84);
    }

    /** "a month that has none such means no day" and "that with D's number, if the month has it" */
    private static void meansNoDayInAMonthThatHasNone() {
        days("FREQ=MONTHLY;BYDAY=5SU;COUNT=3", 0, 29, 120, 211);
        days("FREQ=MONTHLY;BYDAY=-5SU;COUNT=3", 0, 1, 92, 183);
        days("FREQ=MONTHLY;BYMONTHDAY=31;COUNT=3", 0, 30, 90, 151);
        days("FREQ=MONTHLY;BYMONTHDAY=29;COUNT=3;BYMONTH=2", 0, 59, 1520, 2981);
        days("FREQ=MONTHLY;BYMONTHDAY=-30,30;BYMONTH=2", 0);
        days("FREQ=MONTHLY;BYMONTH=2;COUNT=2", 29);
        days("FREQ=MONTHLY;BYMONTH=2;COUNT=2", 28, 59, 1520);
        days("FREQ=MONTHLY;BYMONTH=2;COUNT=2", 27, 58, 424);
        days("FREQ=YEARLY;COUNT=3", 59, 59, 1520, 2981);
        days("FREQ=YEARLY;INTERVAL=3;COUNT=2", 59, 59, 4442);
        days("FREQ=YEARLY;INTERVAL=4;COUNT=2", 59, 59, 1520);
        days("FREQ=YEARLY;BYMONTH=4", 30);
        days("FREQ=YEARLY;BYMONTH=4,5;COUNT=2", 30, 151, 516);
    }

    /** "those before D are not meant": they count for nothing; D itself is meant. */
    private static void leavesOutDaysBeforeTheFirst() {
        days("FREQ=WEEKLY;BYDAY=TU,WE,TH;COUNT=3", 4, 4, 5, 10);
        days("FREQ=WEEKLY;BYDAY=TU,WE,TH;COUNT=3", 5, 5, 10, 11);
        days("FREQ=WEEKLY;BYDAY=TU,WE,TH;COUNT=3", 6, 10, 11, 12);
        days("FREQ=WEEKLY;BYDAY=MO,TU,WE,TH,FR,SA,SU;COUNT=3", 0, 0, 1, 2);
        days("FREQ=MONTHLY;BYMONTHDAY=5,10;COUNT=2", 4, 4, 9);
        days("FREQ=MONTHLY;BYMONTHDAY=5,10;COUNT=2", 5, 9, 35);
        days("FREQ=MONTHLY;BYMONTHDAY=5,10;COUNT=2", 9, 9, 35);
        days("FREQ=MONTHLY;BYMONTHDAY=5,10;COUNT=2", 10, 35, 40);
        days("FREQ=YEARLY;BYMONTH=1,2,3;COUNT=2", 35, 35, 64);
        days("FREQ=YEARLY;BYMONTH=1,2;COUNT=2", 35, 35, 366 + 4);
        days("FREQ=YEARLY;BYMONTH=1,2;COUNT=2", 64, 366 + 4, 366 + 35);
        days("FREQ=YEARLY;BYMONTH=1;INTERVAL=2;COUNT=2", 64, 731 + 4, 1461 + 4);
    }

    /** "nor those behind UNTIL": its day is meant, the next one is not, and with one before D there is none. */
    private static void endsWithUntil() {
        days("FREQ=DAILY;UNTIL=20000103", 0, 0, 1, 2);
        days("FREQ=DAILY;UNTIL=20000103", 1, 1, 2);
        days("FREQ=DAILY;UNTIL=20000103", 2, 2);
        days("FREQ=DAILY;UNTIL=20000103", 3);
        days("FREQ=DAILY;UNTIL=20000101", 0, 0);
        days("FREQ=DAILY;UNTIL=20000101", 36524);
        days("FREQ=DAILY;INTERVAL=2;UNTIL=20000104", 0, 0, 2);
        days("FREQ=DAILY;INTERVAL=2;UNTIL=20000105", 0, 0, 2, 4);
        days("FREQ=WEEKLY;BYDAY=MO,TU,WE;UNTIL=20000103", 0, 2);
        days("FREQ=WEEKLY;BYDAY=MO,TU,WE;UNTIL=20000104", 0, 2, 3);
        days("FREQ=WEEKLY;BYDAY=MO,TU,WE;UNTIL=20000102", 0);
        days("FREQ=MONTHLY;BYMONTHDAY=1,2,3;UNTIL=20000202", 1, 1, 2, 31, 32);
        days("FREQ=MONTHLY;BYMONTHDAY=1,2,3;UNTIL=20000131", 1, 1, 2);
        days("FREQ=MONTHLY;UNTIL=20000331", 30, 30, 90);
        days("FREQ=MONTHLY;UNTIL=20000330", 30, 30);
        days("FREQ=YEARLY;BYMONTHDAY=1,2;UNTIL=20010101", 1, 1, 366);
        days("FREQ=YEARLY;BYMONTHDAY=1,2;UNTIL=20010102", 1, 1, 366, 367);
        days("FREQ=YEARLY;BYMONTHDAY=1,2;UNTIL=20001231", 1, 1);
        days("FREQ=YEARLY;UNTIL=20040229", 59, 59, 1520);
        days("FREQ=YEARLY;UNTIL=20040228", 59, 59);
        days("FREQ=DAILY;UNTIL=20991231", 36523, 36523, 36524);
        days("FREQ=DAILY;UNTIL=20991230", 36523, 36523);
        days("FREQ=DAILY;UNTIL=20991230", 36524);
    }

    /** "nor those behind .. 36524" */
    private static void endsWithTheLastDay() {
        days("FREQ=DAILY", 36523, 36523, 36524);
        days("FREQ=DAILY;COUNT=200", 36524, 36524);
        days("FREQ=DAILY;INTERVAL=2", 36522, 36522, 36524);
        days("FREQ=DAILY;INTERVAL=2", 36521, 36521, 36523);
        days("FREQ=DAILY;INTERVAL=99", 36524, 36524);
        days("FREQ=WEEKLY", 36517, 36517, 36524);
        days("FREQ=WEEKLY", 36518, 36518);
        // The last week goes from MO, 28 December, to SU, 3 January 2100, which is not meant.
        days("FREQ=WEEKLY;BYDAY=MO,TU,WE,TH,FR,SA,SU", 36520, 36520, 36521, 36522, 36523, 36524);
        days("FREQ=WEEKLY;BYDAY=FR;BYMONTH=1", 36524);
        days("FREQ=MONTHLY", 36464, 36464, 36494);
        days("FREQ=MONTHLY;BYMONTHDAY=-1,1", 36494, 36494, 36524);
        days("FREQ=MONTHLY", 36524, 36524);
        days("FREQ=MONTHLY;INTERVAL=99", 36494, 36494);
        days("FREQ=YEARLY", 36159, 36159, 36524);
        days("FREQ=YEARLY", 36524, 36524);
        days("FREQ=YEARLY;BYMONTH=1", 36524);
        days("FREQ=YEARLY;BYMONTH=12;BYMONTHDAY=30,31", 36523, 36523, 36524);
        days("FREQ=YEARLY;INTERVAL=99", 36524, 36524);
    }

    private static void timesDue(String text, int first, int times, int lastDay) {
        RecurrenceBook book = new RecurrenceBook();
        Checks.event(book, text, first);
        Checks.due("times of " + text, book.times(0), times);
        Checks.due("last day of " + text, book.day(0, times - 1), lastDay);
        Checks.throwsElement("day " + times + " of " + text, () -> book.day(0, times));
    }

    /** "no more than COUNT" */
    private static void endsWithCount() {
        String[] frequencies = {"DAILY", "WEEKLY", "MONTHLY", "YEARLY"};
        int[] second = {1, 7, 31, 366};
        for (int i = 0; i < 4; i++) {
            days("FREQ=" + frequencies[i] + ";COUNT=1", 0, 0);
            days("FREQ=" + frequencies[i] + ";COUNT=2", 0, 0, second[i]);
        }
        days("FREQ=WEEKLY;BYDAY=MO,TU,WE;COUNT=1", 2, 2);
        days("FREQ=WEEKLY;BYDAY=MO,TU,WE;COUNT=2", 2, 2, 3);
        days("FREQ=MONTHLY;BYMONTHDAY=1,2,3;COUNT=2", 0, 0, 1);
        days("FREQ=YEARLY;BYMONTH=1,2,3;COUNT=2", 0, 0, 31);
        timesDue("FREQ=DAILY;COUNT=199", 0, 199, 198);
        timesDue("FREQ=DAILY;COUNT=200", 0, 200, 199);
        timesDue("FREQ=WEEKLY;COUNT=199", 0, 199, 7 * 198);
        timesDue("FREQ=WEEKLY;COUNT=200", 0, 200, 7 * 199);
        timesDue("FREQ=MONTHLY;COUNT=199", 0, 199, Checks.on(2016, 7, 1));
        timesDue("FREQ=YEARLY;COUNT=99", 0, 99, Checks.on(2098, 1, 1));
        timesDue("FREQ=YEARLY;COUNT=101", 0, 100, Checks.on(2099, 1, 1));
    }

    /** "and never more than 200": without COUNT, with UNTIL far behind, and in the midst of a period. */
    private static void endsWithTwoHundred() {
        timesDue("FREQ=DAILY", 0, 200, 199);
        timesDue("FREQ=DAILY", 36524 - 200, 200, 36523);
        timesDue("FREQ=DAILY", 36524 - 199, 200, 36524);
        timesDue("FREQ=DAILY", 36524 - 198, 199, 36524);
        timesDue("FREQ=DAILY;UNTIL=20991231", 0, 200, 199);
        timesDue("FREQ=DAILY;UNTIL=20000718", 0, 200, 199);
        timesDue("FREQ=DAILY;UNTIL=20000717", 0, 199, 198);
        timesDue("FREQ=WEEKLY", 0, 200, 7 * 199);
        timesDue("FREQ=WEEKLY;BYDAY=MO,TU,WE", 2, 200, 2 + 7 * 66 + 1);
        timesDue("FREQ=MONTHLY", 0, 200, Checks.on(2016, 8, 1));
        timesDue("FREQ=MONTHLY;BYMONTHDAY=1,2,3", 0, 200, Checks.on(2005, 7, 2));
        timesDue("FREQ=YEARLY", 0, 100, Checks.on(2099, 1, 1));
        timesDue("FREQ=YEARLY;BYMONTH=1,2", 0, 200, Checks.on(2099, 2, 1));
        timesDue("FREQ=YEARLY;BYMONTH=1,2,3", 0, 200, Checks.on(2066, 2, 1));
    }

    /** Periods that mean no day count for nothing, however many there are. */
    private static void countsOnlyDaysThatAreMeant() {
        days("FREQ=DAILY;BYMONTH=2;BYMONTHDAY=29;BYDAY=TU;COUNT=3", 0, 59, 59 + 10227, 59 + 2 * 10227);
        days("FREQ=YEARLY;BYMONTH=2;BYMONTHDAY=29;BYDAY=TU;COUNT=9", 0, 59, 59 + 10227, 59 + 2 * 10227, 59 + 3 * 10227);
        // 99 months are 8 years and 3 months: April comes once in 33 years, February never.
        days("FREQ=MONTHLY;INTERVAL=99;BYMONTH=4", 0, Checks.on(2008, 4, 1), Checks.on(2041, 4, 1), Checks.on(2074, 4, 1));
        days("FREQ=MONTHLY;INTERVAL=99;BYMONTH=2", 0);
    }
}
