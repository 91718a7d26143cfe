/** Promise 4 with the terms: which days a rule means. Day 0 is Saturday, 1 January 2000. */
public final class RuleDaysTest {
    public static void main(String[] args) {
        daily();
        weekly();
        monthly();
        yearly();
        limits();
        Checks.finish("RuleDaysTest");
    }

    private static void days(String text, int first, int... days) {
        RecurrenceBook book = new RecurrenceBook();
        Checks.daysDue(text + " from " + first, book, Checks.event(book, text, first), days);
    }

    private static void daily() {
        days("", 36524, 36524);
        days("FREQ=DAILY;COUNT=3", 5, 5, 6, 7);
        days("FREQ=DAILY;INTERVAL=99;COUNT=3", 5, 5, 104, 203);
        days("FREQ=DAILY;BYDAY=SU,MO;COUNT=4", 0, 1, 2, 8, 9);
        days("FREQ=DAILY;INTERVAL=2;BYDAY=SU;COUNT=2", 0, 8, 22);
        days("FREQ=DAILY;BYMONTHDAY=-1;COUNT=4", 0, 30, 59, 90, 120);
        days("FREQ=DAILY;BYMONTHDAY=-29,1;BYMONTH=2;COUNT=3", 0, 31, 397, 762);
        days("FREQ=DAILY;BYMONTHDAY=31,-31;BYDAY=SU;COUNT=3", 0, 274, 365, 547);
        days("FREQ=DAILY;BYMONTH=2;BYMONTHDAY=30", 0);
        days("FREQ=DAILY;BYMONTH=12,3;INTERVAL=30;COUNT=4", 0, 60, 90, 360, 450);
    }

    private static void weekly() {
        days("FREQ=WEEKLY;COUNT=3", 0, 0, 7, 14);
        days("FREQ=WEEKLY;BYDAY=SU,MO;COUNT=3", 0, 1, 2, 8);
        days("FREQ=WEEKLY;INTERVAL=2;BYDAY=MO,SA;COUNT=4", 0, 0, 9, 14, 23);
        days("FREQ=WEEKLY;INTERVAL=2;BYDAY=MO,SU;COUNT=4", 2, 2, 8, 16, 22);
        days("FREQ=WEEKLY;INTERVAL=2;BYDAY=MO;COUNT=2", 1, 9, 23);
        days("FREQ=WEEKLY;BYDAY=SA,SU;BYMONTH=1,4;COUNT=12", 20, 21, 22, 28, 29, 91, 92, 98, 99, 105, 106, 112, 113);
        days("FREQ=WEEKLY;BYMONTH=2;COUNT=2", 29, 36, 43);
        days("FREQ=WEEKLY;BYDAY=MO,TU,WE,TH,FR,SA,SU", 36522, 36522, 36523, 36524);
        days("FREQ=WEEKLY;INTERVAL=99", 36524 - 693, 36524 - 693, 36524);
    }

    private static void monthly() {
        days("FREQ=MONTHLY;COUNT=3", 30, 30, 90, 151);
        days("FREQ=MONTHLY;INTERVAL=2;COUNT=3", 30, 30, 90, 151);
        days("FREQ=MONTHLY;INTERVAL=3;COUNT=3", 30, 30, 212, 304);
        days("FREQ=MONTHLY;BYMONTHDAY=-1,1;COUNT=4", 1, 30, 31, 59, 60);
        days("FREQ=MONTHLY;BYMONTHDAY=-30,30;BYMONTH=2", 0);
        days("FREQ=MONTHLY;BYDAY=1SA,-1MO;COUNT=4", 0, 0, 30, 35, 58);
        days("FREQ=MONTHLY;BYDAY=5SU;COUNT=3", 0, 29, 120, 211);
        days("FREQ=MONTHLY;BYDAY=-5SU;COUNT=3", 0, 1, 92, 183);
        days("FREQ=MONTHLY;BYDAY=SA,1SU;COUNT=7", 0, 0, 1, 7, 14, 21, 28, 35);
        days("FREQ=MONTHLY;BYDAY=FR;BYMONTHDAY=13;COUNT=2", 0, 286, 468);
        days("FREQ=MONTHLY;BYDAY=SA,SU;BYMONTHDAY=1,2;BYMONTH=1,4;COUNT=3", 1, 1, 91, 92);
        days("FREQ=MONTHLY;BYMONTH=2;COUNT=2", 30);
        days("FREQ=MONTHLY;BYDAY=2TU;COUNT=2", 11, 38, 73);
        days("FREQ=MONTHLY;INTERVAL=99;COUNT=3", 0, 0, 3013, 6026);
    }

    private static void yearly() {
        days("FREQ=YEARLY;COUNT=3", 59, 59, 1520, 2981);
        days("FREQ=YEARLY;INTERVAL=3;COUNT=2", 59, 59, 4442);
        days("FREQ=YEARLY;COUNT=3", 60, 60, 425, 790);
        days("FREQ=YEARLY;BYMONTH=12,2;COUNT=4", 0, 31, 335, 397, 700);
        days("FREQ=YEARLY;BYMONTHDAY=-1;COUNT=3", 35, 59, 424, 789);
        days("FREQ=YEARLY;BYDAY=1SU;COUNT=2", 35, 36, 400);
        days("FREQ=YEARLY;BYDAY=-1SU;BYMONTH=3,10;INTERVAL=2;COUNT=4", 85, 85, 302, 820, 1030);
        days("FREQ=YEARLY;BYDAY=SU;COUNT=5", 8, 8, 15, 22, 29, 372);
        days("FREQ=YEARLY;BYMONTH=2;BYMONTHDAY=-1", 36000, 36218);
        days("FREQ=YEARLY;INTERVAL=99", 0, 0, 36160);
        days("FREQ=YEARLY;BYMONTH=1;COUNT=2", 30, 30, 396);
    }

    private static void limits() {
        days("FREQ=DAILY;UNTIL=20000103", 0, 0, 1, 2);
        days("FREQ=DAILY;UNTIL=20000103", 2, 2);
        days("FREQ=DAILY;UNTIL=20000103", 3);
        days("FREQ=WEEKLY;BYDAY=MO,TU,WE;UNTIL=20000104", 0, 2, 3);
        days("FREQ=MONTHLY;BYMONTHDAY=1,2,3;UNTIL=20000202", 1, 1, 2, 31, 32);
        days("FREQ=YEARLY;BYMONTHDAY=1,2;UNTIL=20010101", 1, 1, 366);
        days("FREQ=DAILY", 36523, 36523, 36524);
        days("FREQ=YEARLY", 36524, 36524);
        String[] longRules = {"FREQ=DAILY", "FREQ=WEEKLY", "FREQ=MONTHLY", "FREQ=YEARLY;BYDAY=MO", "FREQ=DAILY;COUNT=200",
            "FREQ=DAILY;UNTIL=20991231", "FREQ=WEEKLY;BYDAY=MO,TU,WE", "FREQ=MONTHLY;BYMONTHDAY=1,2,3"};
        for (String text : longRules) {
            RecurrenceBook book = new RecurrenceBook();
            Checks.event(book, text, 0);
            Checks.due("times of " + text, book.times(0), 200);
            Checks.throwsElement("day 200 of " + text, () -> book.day(0, 200));
        }
        RecurrenceBook book = new RecurrenceBook();
        Checks.event(book, "FREQ=DAILY;COUNT=199", 0);
        Checks.due("times of COUNT=199", book.times(0), 199);
        Checks.event(book, "FREQ=YEARLY", 0);
        Checks.due("times of a hundred years", book.times(1), 100);
        Checks.due("day of the last year", book.day(1, 99), 36160);
    }
}
