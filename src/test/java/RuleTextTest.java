/** Promise 4 with the terms: which texts are rules, on both sides of each bound. */
public final class RuleTextTest {
    private static final String[] FREQUENCIES = {"DAILY", "WEEKLY", "MONTHLY", "YEARLY"};

    public static void main(String[] args) {
        takesTheEmptyText();
        takesSixtyCharacters();
        putsPartsTogetherBySemicolons();
        takesNamesAndEqualsSigns();
        takesEachNameOnce();
        takesPartsInAnyOrder();
        needsAFrequency();
        boundsInterval();
        boundsCount();
        boundsUntil();
        boundsHowManyWeekdays();
        boundsDigitsOfWeekdays();
        takesTheLettersOfWeekdays();
        boundsHowManyMonthDays();
        boundsMonthDays();
        boundsHowManyMonths();
        boundsMonths();
        boundsDigitsOfNumbers();
        takesNotBothCountAndUntil();
        takesDigitsOfWeekdaysByMonthsAlone();
        takesNoMonthDaysByWeeks();
        takesNoOddCharacters();
        readsNothingOfAnEarlierText();
        Checks.finish("RuleTextTest");
    }

    private static boolean isRule(String text) {
        RecurrenceBook book = new RecurrenceBook();
        Checks.type(book, text);
        int kind = Checks.thrown(() -> book.event(0, 0, 1));
        if (kind == Checks.NOTHING) {
            Checks.due("times of " + text + " are there", book.times(0) >= 0, true);
        } else {
            Checks.due("kind of exception of " + text, kind, Checks.ARGUMENT);
            Checks.throwsElement("times(0) after " + text, () -> book.times(0));
        }
        Checks.typedDue("behind " + text, book, 0);
        return kind == Checks.NOTHING;
    }

    private static void rules(String... texts) {
        for (String text : texts) {
            Checks.due("is a rule: " + text, isRule(text), true);
        }
    }

    private static void noRules(String... texts) {
        for (String text : texts) {
            Checks.due("is a rule: " + text, isRule(text), false);
        }
    }

    /** One part behind FREQ=DAILY. */
    private static void dailyRules(String... parts) {
        for (String part : parts) {
            rules("FREQ=DAILY;" + part, part + ";FREQ=DAILY");
        }
    }

    private static void noDailyRules(String... parts) {
        for (String part : parts) {
            noRules("FREQ=DAILY;" + part, part + ";FREQ=DAILY");
        }
    }

    private static void monthlyRules(String... parts) {
        for (String part : parts) {
            rules("FREQ=MONTHLY;" + part, part + ";FREQ=MONTHLY");
        }
    }

    private static void noMonthlyRules(String... parts) {
        for (String part : parts) {
            noRules("FREQ=MONTHLY;" + part, part + ";FREQ=MONTHLY");
        }
    }

    /** "The empty text is a rule, too" */
    private static void takesTheEmptyText() {
        rules("");
        noRules(" ", ";", "=", "x", "\0");
    }

    /** "a text of at most 60 characters" (TypeTest has what comes of longer ones) */
    private static void takesSixtyCharacters() {
        String fiftyNine = "FREQ=DAILY;COUNT=200;BYMONTH=01,02,03,04,05,06;BYMONTHDAY=1";
        Checks.due("length", fiftyNine.length(), 59);
        rules(fiftyNine, fiftyNine + "2");
        noRules(fiftyNine + ",", fiftyNine + ";", fiftyNine + "x");
    }

    /** "PARTS with ; between" */
    private static void putsPartsTogetherBySemicolons() {
        rules("FREQ=DAILY;COUNT=1", "FREQ=DAILY;COUNT=1;INTERVAL=2");
        noRules("FREQ=DAILY;", ";FREQ=DAILY", "FREQ=DAILY;;COUNT=1", "FREQ=DAILY,COUNT=1", "FREQ=DAILYCOUNT=1");
        noRules("FREQ=DAILY;COUNT=1;", ";FREQ=DAILY;COUNT=1", "FREQ=DAILY:COUNT=1", "FREQ=DAILY COUNT=1", ";;", "FREQ=DAILY;;");
        noRules("FREQ=DAILY; COUNT=1", "FREQ=DAILY ;COUNT=1", "COUNT=1;INTERVAL=1;BYMONTH=1;BYMONTHDAY=1;FREQ=DAILY;");
    }

    /** "each a name, = and values" */
    private static void takesNamesAndEqualsSigns() {
        String[] values = {"INTERVAL=1", "COUNT=1", "UNTIL=20000101", "BYDAY=MO", "BYMONTHDAY=1", "BYMONTH=1"};
        for (String part : values) {
            int at = part.indexOf('=');
            String name = part.substring(0, at);
            String value = part.substring(at + 1);
            dailyRules(part);
            noDailyRules(name, name + "=", name + value, "=" + value, value, name + "==" + value, name + ":" + value);
            noDailyRules(name + " =" + value, name + "= " + value, part + " ", " " + part, part + ",", part + "=", part + "-");
            noDailyRules(name.toLowerCase() + "=" + value, name.substring(1) + "=" + value, name + "S=" + value);
            noDailyRules(name.substring(0, at - 1) + "=" + value, name + "=," + value, name + "=+" + value, name + "=x");
        }
        noRules("FREQ", "FREQ=", "FREQ=;", "=DAILY", "DAILY", "FREQDAILY", "FREQ==DAILY", "FREQ=DAILY=1", "freq=DAILY");
        noRules("FREQ =DAILY", "FREQ= DAILY", "FREQ=DAILY ", " FREQ=DAILY", "FREQ:DAILY", "FRE=DAILY", "REQ=DAILY", "X=1;FREQ=DAILY");
    }

    /** "each name at most once": the same value or another, side by side or apart. */
    private static void takesEachNameOnce() {
        String[][] twice = {{"INTERVAL=1", "INTERVAL=2"}, {"COUNT=1", "COUNT=2"}, {"UNTIL=20000101", "UNTIL=20000102"},
            {"BYDAY=MO", "BYDAY=TU"}, {"BYMONTHDAY=1", "BYMONTHDAY=2"}, {"BYMONTH=1", "BYMONTH=2"},
            {"BYMONTHDAY=-1", "BYMONTHDAY=2"}, {"BYMONTHDAY=1", "BYMONTHDAY=-2"}};
        for (String[] pair : twice) {
            dailyRules(pair[0], pair[1]);
            noDailyRules(pair[0] + ";" + pair[1], pair[0] + ";" + pair[0]);
            noRules(pair[0] + ";FREQ=DAILY;" + pair[1], pair[0] + ";FREQ=DAILY;" + pair[0]);
        }
        monthlyRules("BYDAY=1MO", "BYDAY=-1MO", "BYDAY=MO");
        noMonthlyRules("BYDAY=1MO;BYDAY=TU", "BYDAY=-1MO;BYDAY=TU", "BYDAY=TU;BYDAY=1MO", "BYDAY=1MO;BYDAY=1MO");
        noRules("FREQ=DAILY;FREQ=DAILY", "FREQ=DAILY;FREQ=WEEKLY", "FREQ=DAILY;COUNT=1;FREQ=DAILY");
        noRules("FREQ=DAILY;COUNT=1;INTERVAL=1;COUNT=2", "FREQ=DAILY;INTERVAL=1;BYMONTH=1;INTERVAL=1;BYDAY=MO;COUNT=1");
    }

    /** "in any order": all of them mean the same days. */
    private static void takesPartsInAnyOrder() {
        // MO 3 January, four TU, and then May, for March is not in BYMONTH, and February no period.
        String[] parts = {"FREQ=MONTHLY", "INTERVAL=2", "COUNT=6", "BYDAY=1MO,TU", "BYMONTH=1,2,5"};
        inEveryOrder(parts, 0, 0, 2, 3, 10, 17, 24, 121);
        // MO 6 and TU 7 March; TU 6 March 2001 is behind UNTIL.
        String[] others = {"FREQ=YEARLY", "UNTIL=20000307", "BYDAY=1MO,TU", "BYMONTHDAY=6,7,-29"};
        inEveryOrder(others, 0, 62, 65, 66);
    }

    private static void inEveryOrder(String[] parts, int fixed, int first, int... days) {
        if (fixed == parts.length) {
            RecurrenceBook book = new RecurrenceBook();
            String text = String.join(";", parts);
            Checks.daysDue(text, book, Checks.event(book, text, first), days);
            return;
        }
        for (int i = fixed; i < parts.length; i++) {
            swap(parts, fixed, i);
            inEveryOrder(parts, fixed + 1, first, days);
            swap(parts, fixed, i);
        }
    }

    private static void swap(String[] row, int a, int b) {
        String kept = row[a];
        row[a] = row[b];
        row[b] = kept;
    }

    /** "FREQ (which must be there): DAILY, WEEKLY, MONTHLY or YEARLY" */
    private static void needsAFrequency() {
        for (String frequency : FREQUENCIES) {
            rules("FREQ=" + frequency);
            noRules("FREQ=" + frequency.toLowerCase(), "FREQ=" + frequency + "X", "FREQ=X" + frequency);
            noRules("FREQ=" + frequency.substring(0, frequency.length() - 1), "FREQ=" + frequency.substring(1));
            noRules("FREQ=" + frequency + "," + frequency, "FREQ=" + frequency + frequency);
        }
        noRules("INTERVAL=1", "COUNT=1", "UNTIL=20000101", "BYDAY=MO", "BYMONTHDAY=1", "BYMONTH=1", "COUNT=2;INTERVAL=1");
        noRules("FREQ=HOURLY", "FREQ=1", "FREQ=SECONDLY", "FREQ=DAY", "FREQ=MO", "BYMONTH=1;BYMONTHDAY=1");
    }

    /** "INTERVAL: a number 1 .. 99" */
    private static void boundsInterval() {
        for (int i = 1; i <= 99; i++) {
            rules("FREQ=DAILY;INTERVAL=" + i);
        }
        noDailyRules("INTERVAL=0", "INTERVAL=00", "INTERVAL=100", "INTERVAL=-1", "INTERVAL=1,2", "INTERVAL=1x");
    }

    /** "COUNT: a number 1 .. 200" */
    private static void boundsCount() {
        for (int i = 1; i <= 200; i++) {
            rules("FREQ=DAILY;COUNT=" + i);
        }
        noDailyRules("COUNT=0", "COUNT=00", "COUNT=000", "COUNT=201", "COUNT=202", "COUNT=999", "COUNT=-1", "COUNT=1,2");
    }

    /** "UNTIL: a day as eight digits, year, month, day of month, of the years 2000 to 2099" */
    private static void boundsUntil() {
        dailyRules("UNTIL=20000101", "UNTIL=20991231", "UNTIL=20000131", "UNTIL=20001231", "UNTIL=20990101");
        noDailyRules("UNTIL=19991231", "UNTIL=21000101", "UNTIL=00000101", "UNTIL=99991231", "UNTIL=10000101");
        noDailyRules("UNTIL=20000001", "UNTIL=20001301", "UNTIL=20000100", "UNTIL=20000132", "UNTIL=20000099", "UNTIL=20009901");
        noDailyRules("UNTIL=2000010", "UNTIL=200001011", "UNTIL=", "UNTIL=2", "UNTIL=00000000", "UNTIL=020000101");
        noDailyRules("UNTIL=2000010x", "UNTIL=-2000101", "UNTIL=2000-1-1", "UNTIL=20000101,20000102", "UNTIL=20000101T");
        dailyRules("UNTIL=20000229", "UNTIL=20040229", "UNTIL=20960229", "UNTIL=20010228", "UNTIL=20000430", "UNTIL=20001130");
        noDailyRules("UNTIL=20000230", "UNTIL=20010229", "UNTIL=20990229", "UNTIL=20000431", "UNTIL=20001131");
    }

    /** "BYDAY: up to 7 values with , between" */
    private static void boundsHowManyWeekdays() {
        dailyRules("BYDAY=MO", "BYDAY=MO,TU", "BYDAY=MO,TU,WE,TH,FR,SA", "BYDAY=MO,TU,WE,TH,FR,SA,SU");
        noDailyRules("BYDAY=MO,TU,WE,TH,FR,SA,SU,MO", "BYDAY=MO,TU,WE,TH,FR,SA,SU,", "BYDAY=");
        dailyRules("BYDAY=MO,MO", "BYDAY=MO,MO,MO,MO,MO,MO,MO");
        noDailyRules("BYDAY=MO,MO,MO,MO,MO,MO,MO,MO", "BYDAY=MO,MO,MO,MO,MO,MO,MO,MO,MO");
        monthlyRules("BYDAY=1MO,2MO,3MO,4MO,5MO,-1MO,-2MO", "BYDAY=-1MO,-2TU,-3WE,-4TH,-5FR,1SA,SU");
        noMonthlyRules("BYDAY=1MO,2MO,3MO,4MO,5MO,-1MO,-2MO,-3MO", "BYDAY=1MO,1MO,1MO,1MO,1MO,1MO,1MO,1MO");
        noDailyRules("BYDAY=MO,", "BYDAY=,MO", "BYDAY=MO,,TU", "BYDAY=MO TU", "BYDAY=MO, TU", "BYDAY=MOTU", "BYDAY=,");
    }

    /** "before them perhaps a digit 1 .. 5, and before that perhaps a -" */
    private static void boundsDigitsOfWeekdays() {
        for (int n = 1; n <= 5; n++) {
            monthlyRules("BYDAY=" + n + "MO", "BYDAY=-" + n + "SU", "BYDAY=SA," + n + "MO", "BYDAY=1TU,-" + n + "WE");
        }
        noMonthlyRules("BYDAY=0MO", "BYDAY=6MO", "BYDAY=-0MO", "BYDAY=-6MO", "BYDAY=9MO", "BYDAY=MO,0TU", "BYDAY=MO,6TU");
        noMonthlyRules("BYDAY=01MO", "BYDAY=11MO", "BYDAY=-11MO", "BYDAY=12MO", "BYDAY=1-MO", "BYDAY=--1MO", "BYDAY=+1MO");
        noMonthlyRules("BYDAY=-MO", "BYDAY=-", "BYDAY=1", "BYDAY=-1", "BYDAY=MO1", "BYDAY=MO-1", "BYDAY=1,MO", "BYDAY=- 1MO");
    }

    /** "the first two letters of a weekday (as above)" */
    private static void takesTheLettersOfWeekdays() {
        String[] weekdays = {"MO", "TU", "WE", "TH", "FR", "SA", "SU"};
        for (String weekday : weekdays) {
            dailyRules("BYDAY=" + weekday);
            noDailyRules("BYDAY=" + weekday.toLowerCase(), "BYDAY=" + weekday.charAt(0), "BYDAY=" + weekday + "X");
            noDailyRules("BYDAY=" + weekday.charAt(1) + weekday.charAt(0), "BYDAY=" + weekday.charAt(0) + "X");
        }
        noDailyRules("BYDAY=OT", "BYDAY=UW", "BYDAY=ET", "BYDAY=MU", "BYDAY=TO", "BYDAY=MON", "BYDAY=XX", "BYDAY=O", "BYDAY=FU");
    }

    /** "BYMONTHDAY: up to 8 numbers .. with , between" */
    private static void boundsHowManyMonthDays() {
        dailyRules("BYMONTHDAY=1", "BYMONTHDAY=1,2,3,4,5,6,7", "BYMONTHDAY=1,2,3,4,5,6,7,8");
        noDailyRules("BYMONTHDAY=1,2,3,4,5,6,7,8,9", "BYMONTHDAY=1,2,3,4,5,6,7,8,", "BYMONTHDAY=");
        dailyRules("BYMONTHDAY=-1,-2,-3,-4,-5,-6,-7,-8", "BYMONTHDAY=1,1,1,1,1,1,1,1");
        noDailyRules("BYMONTHDAY=-1,-2,-3,-4,-5,-6,-7,-8,-9", "BYMONTHDAY=1,1,1,1,1,1,1,1,1");
        noDailyRules("BYMONTHDAY=1,", "BYMONTHDAY=,1", "BYMONTHDAY=1,,2", "BYMONTHDAY=1 2", "BYMONTHDAY=1, 2", "BYMONTHDAY=1-2");
    }

    /** "numbers 1 .. 31 .., before each perhaps a -" */
    private static void boundsMonthDays() {
        for (int n = 1; n <= 31; n++) {
            dailyRules("BYMONTHDAY=" + n, "BYMONTHDAY=-" + n);
        }
        noDailyRules("BYMONTHDAY=0", "BYMONTHDAY=00", "BYMONTHDAY=32", "BYMONTHDAY=99", "BYMONTHDAY=1,0", "BYMONTHDAY=1,32");
        noDailyRules("BYMONTHDAY=-0", "BYMONTHDAY=-32", "BYMONTHDAY=--1", "BYMONTHDAY=-", "BYMONTHDAY=1-", "BYMONTHDAY=-,1");
        noDailyRules("BYMONTHDAY=MO", "BYMONTHDAY=1MO", "BYMONTHDAY=+1", "BYMONTHDAY=- 1");
    }

    /** "BYMONTH: up to 8 numbers .. with , between" */
    private static void boundsHowManyMonths() {
        dailyRules("BYMONTH=1", "BYMONTH=1,2,3,4,5,6,7", "BYMONTH=1,2,3,4,5,6,7,8", "BYMONTH=1,1,1,1,1,1,1,1");
        noDailyRules("BYMONTH=1,2,3,4,5,6,7,8,9", "BYMONTH=1,1,1,1,1,1,1,1,1", "BYMONTH=1,2,3,4,5,6,7,8,", "BYMONTH=");
        noDailyRules("BYMONTH=1,", "BYMONTH=,1", "BYMONTH=1,,2", "BYMONTH=1 2", "BYMONTH=1, 2", "BYMONTH=1-2");
    }

    /** "numbers 1 .. 12" */
    private static void boundsMonths() {
        for (int n = 1; n <= 12; n++) {
            dailyRules("BYMONTH=" + n);
        }
        noDailyRules("BYMONTH=0", "BYMONTH=00", "BYMONTH=13", "BYMONTH=99", "BYMONTH=1,0", "BYMONTH=1,13");
        noDailyRules("BYMONTH=-1", "BYMONTH=-", "BYMONTH=1,-2", "BYMONTH=+1", "BYMONTH=JAN");
    }

    /** "Numbers are one or two (COUNT: up to three) digits." */
    private static void boundsDigitsOfNumbers() {
        dailyRules("INTERVAL=1", "INTERVAL=01", "BYMONTHDAY=1", "BYMONTHDAY=01", "BYMONTHDAY=-01", "BYMONTH=1", "BYMONTH=01");
        noDailyRules("INTERVAL=001", "BYMONTHDAY=001", "BYMONTHDAY=-001", "BYMONTH=001", "BYMONTH=012", "INTERVAL=010");
        dailyRules("COUNT=1", "COUNT=01", "COUNT=001", "COUNT=020");
        noDailyRules("COUNT=0001", "COUNT=0200", "COUNT=1000", "COUNT=2000");
        RecurrenceBook book = new RecurrenceBook();
        Checks.daysDue("COUNT=002", book, Checks.event(book, "FREQ=DAILY;COUNT=002;INTERVAL=03", 0), 0, 3);
        Checks.daysDue("BYMONTHDAY=-02", book, Checks.event(book, "FREQ=DAILY;COUNT=2;BYMONTHDAY=-02,08", 0), 7, 29);
        Checks.daysDue("BYMONTH=02", book, Checks.event(book, "FREQ=DAILY;COUNT=2;BYMONTH=02", 0), 31, 32);
    }

    /** "Not both COUNT and UNTIL" */
    private static void takesNotBothCountAndUntil() {
        for (String frequency : FREQUENCIES) {
            rules("FREQ=" + frequency + ";COUNT=3", "FREQ=" + frequency + ";UNTIL=20000101");
            noRules("FREQ=" + frequency + ";COUNT=3;UNTIL=20000101", "UNTIL=20000101;FREQ=" + frequency + ";COUNT=3");
            noRules("COUNT=200;UNTIL=20991231;FREQ=" + frequency);
        }
    }

    /** "no digits in BYDAY with DAILY or WEEKLY" */
    private static void takesDigitsOfWeekdaysByMonthsAlone() {
        String[] lists = {"1MO", "-5SU", "MO,1TU", "1TU,MO", "MO,TU,WE,TH,FR,SA,-1SU"};
        for (String list : lists) {
            rules("FREQ=MONTHLY;BYDAY=" + list, "BYDAY=" + list + ";FREQ=YEARLY");
            noRules("FREQ=DAILY;BYDAY=" + list, "BYDAY=" + list + ";FREQ=DAILY");
            noRules("FREQ=WEEKLY;BYDAY=" + list, "BYDAY=" + list + ";FREQ=WEEKLY");
        }
        for (String frequency : FREQUENCIES) {
            rules("BYDAY=MO,SU;FREQ=" + frequency);
        }
    }

    /** "no BYMONTHDAY with WEEKLY" */
    private static void takesNoMonthDaysByWeeks() {
        String[] lists = {"1", "-1", "1,-1"};
        for (String list : lists) {
            rules("FREQ=DAILY;BYMONTHDAY=" + list, "FREQ=MONTHLY;BYMONTHDAY=" + list, "BYMONTHDAY=" + list + ";FREQ=YEARLY");
            noRules("FREQ=WEEKLY;BYMONTHDAY=" + list, "BYMONTHDAY=" + list + ";FREQ=WEEKLY");
        }
        rules("FREQ=WEEKLY;BYMONTH=1");
    }

    private static void takesNoOddCharacters() {
        noRules("\u0146REQ=DAILY", "FREQ=DAILY;COUNT=\u0661", "FREQ=DAILY\0", "FREQ=DAILY\n", "\tFREQ=DAILY", "FREQ=D\u0391ILY");
        noRules("FREQ=DAILY;INTERVAL=\u0131", "FREQ=DAILY;COUNT=/", "FREQ=DAILY;COUNT=:", "FREQ=DAILY;BYMONTH=1\uff0c2");
        noRules("FREQ=DAILY\uff1bCOUNT=1", "FREQ\uff1dDAILY", "FREQ=DAILY;COUNT=1/", "FREQ=DAILY;COUNT=1:");
    }

    /** What stood behind the end of a text before it is not of it: a rule that is cut short is none, or another one. */
    private static void readsNothingOfAnEarlierText() {
        String whole = "FREQ=DAILY;BYDAY=MO,TU;COUNT=12";
        for (int length = 0; length < whole.length(); length++) {
            RecurrenceBook book = new RecurrenceBook();
            Checks.event(book, whole, 0);
            String cut = whole.substring(0, length);
            Checks.type(book, cut);
            int kind = Checks.thrown(() -> book.event(0, 0, 1));
            Checks.due("kind of exception of " + cut + " behind " + whole, kind, isRule(cut) ? Checks.NOTHING : Checks.ARGUMENT);
        }
        noRules("FREQ=DAILY;BYDAY=MO,TU;COUNT=", "FREQ=DAILY;BYDAY=MO,T", "FREQ=DAILY;BYDAY=M", "FREQ=DAILY;BY", "FREQ=DAIL", "F");
        rules("FREQ=DAILY;BYDAY=MO,TU;COUNT=1", "FREQ=DAILY;BYDAY=MO,TU", "FREQ=DAILY;BYDAY=MO", "FREQ=DAILY");
    }
}
