/** Promise 4: which texts are rules. */
public final class RuleTextTest {
    public static void main(String[] args) {
        takesRules();
        refusesBadShapes();
        refusesBadNumbers();
        refusesBadLists();
        refusesBadPairs();
        Checks.finish("RuleTextTest");
    }

    private static boolean isRule(String text) {
        RecurrenceBook book = new RecurrenceBook();
        Checks.type(book, text);
        int kind = Checks.thrown(() -> book.event(0, 0, 1));
        if (kind != Checks.NOTHING) {
            Checks.due("kind of exception of " + text, kind, Checks.ARGUMENT);
            Checks.throwsElement("times(0) after " + text, () -> book.times(0));
        }
        return kind == Checks.NOTHING;
    }

    private static void rules(String... texts) {
        for (String text : texts) {
            Checks.due("is a rule: " + text, isRule(text), true);
        }
    }

    private static void noRules(String... texts) {
        for (String text : texts) {
            Checks.due("is a rule: " + text, isRule(text), false);
        }
    }

    private static void takesRules() {
        rules("", "FREQ=DAILY", "FREQ=WEEKLY", "FREQ=MONTHLY", "FREQ=YEARLY");
        rules("INTERVAL=1;FREQ=DAILY", "FREQ=DAILY;INTERVAL=99", "FREQ=DAILY;INTERVAL=01", "FREQ=DAILY;INTERVAL=09");
        rules("FREQ=DAILY;COUNT=1", "FREQ=DAILY;COUNT=200", "FREQ=DAILY;COUNT=007", "FREQ=DAILY;COUNT=20");
        rules("FREQ=DAILY;UNTIL=20000101", "FREQ=DAILY;UNTIL=20991231", "UNTIL=20040229;FREQ=YEARLY");
        rules("FREQ=WEEKLY;BYDAY=MO,TU,WE,TH,FR,SA,SU", "FREQ=DAILY;BYDAY=MO,MO", "FREQ=MONTHLY;BYDAY=MO,1TU,-5SU");
        rules("FREQ=YEARLY;BYDAY=-1SU,5MO", "FREQ=MONTHLY;BYDAY=1MO,2MO,3MO,4MO,5MO,-1MO,-2MO");
        rules("FREQ=DAILY;BYMONTHDAY=1,2,3,4,5,6,7,8", "FREQ=MONTHLY;BYMONTHDAY=-31,31,01,-01");
        rules("FREQ=YEARLY;BYMONTHDAY=29", "BYMONTH=1,2,3,4,5,6,7,8;FREQ=WEEKLY", "FREQ=DAILY;BYMONTH=12,01");
        rules("BYMONTHDAY=1;BYMONTH=1;BYDAY=MO;UNTIL=20200101;FREQ=DAILY", "BYMONTH=1;BYMONTHDAY=1;BYDAY=1MO;COUNT=1;FREQ=YEARLY");
    }

    private static void refusesBadShapes() {
        noRules(";", "=", "FREQ", "FREQ=", "FREQ=;", "FREQ=DAILY;", ";FREQ=DAILY", "FREQ=DAILY;;COUNT=1");
        noRules("FREQ=HOURLY", "FREQ=daily", "freq=DAILY", "FREQ=DAIL", "FREQ=DAILYX", "FREQ =DAILY", "FREQ=DAILY ");
        noRules("FREQ=DAILY,WEEKLY", "FREQ=DAILY=1", "FREQ=DAILY;COUNT", "FREQ=DAILY;COUNT=", "FREQ=DAILY;X=1", "FREQ:DAILY");
        noRules("FREQ=DAILY,COUNT=1", " ", "x", "INTERVAL=1", "COUNT=1", "BYDAY=MO", "BYMONTH=1;BYMONTHDAY=1");
        noRules("FREQ=DAILY;FREQ=DAILY", "FREQ=DAILY;COUNT=1;COUNT=1", "FREQ=DAILY;INTERVAL=1;INTERVAL=2");
        noRules("UNTIL=20000101;FREQ=DAILY;UNTIL=20000101", "BYDAY=MO;FREQ=DAILY;BYDAY=TU", "BYDAY=1MO;FREQ=MONTHLY;BYDAY=TU");
        noRules("BYMONTHDAY=1;FREQ=DAILY;BYMONTHDAY=2", "BYMONTHDAY=-1;FREQ=DAILY;BYMONTHDAY=2", "BYMONTH=1;FREQ=DAILY;BYMONTH=1");
        noRules("FREQ=DAILY;COUNT=1;INTERVAL=1;COUNT=2", "COUNT=1;INTERVAL=1;BYMONTH=1;BYMONTHDAY=1;FREQ=DAILY;");
        noRules("\u0146REQ=DAILY", "FREQ=DAILY;COUNT=\u0661", "FREQ=DAILY\0");
    }

    private static void refusesBadNumbers() {
        noRules("FREQ=DAILY;INTERVAL=0", "FREQ=DAILY;INTERVAL=100", "FREQ=DAILY;INTERVAL=001", "FREQ=DAILY;INTERVAL=-1");
        noRules("FREQ=DAILY;INTERVAL=+1", "FREQ=DAILY;INTERVAL=1,2", "FREQ=DAILY;INTERVAL=00", "FREQ=DAILY;INTERVAL=1x");
        noRules("FREQ=DAILY;COUNT=0", "FREQ=DAILY;COUNT=201", "FREQ=DAILY;COUNT=0001", "FREQ=DAILY;COUNT=999", "FREQ=DAILY;COUNT=-1");
        noRules("FREQ=DAILY;UNTIL=2000010", "FREQ=DAILY;UNTIL=200001011", "FREQ=DAILY;UNTIL=19991231", "FREQ=DAILY;UNTIL=21000101");
        noRules("FREQ=DAILY;UNTIL=20010229", "FREQ=DAILY;UNTIL=20000001", "FREQ=DAILY;UNTIL=20001301", "FREQ=DAILY;UNTIL=20000100");
        noRules("FREQ=DAILY;UNTIL=20000431", "FREQ=DAILY;UNTIL=-2000101", "FREQ=DAILY;UNTIL=00000000", "FREQ=DAILY;UNTIL=2000010x");
    }

    private static void refusesBadLists() {
        noRules("FREQ=DAILY;BYDAY=", "FREQ=DAILY;BYDAY=MO,", "FREQ=DAILY;BYDAY=,MO", "FREQ=DAILY;BYDAY=MO,,TU", "FREQ=DAILY;BYDAY=M");
        noRules("FREQ=DAILY;BYDAY=MX", "FREQ=DAILY;BYDAY=OT", "FREQ=DAILY;BYDAY=MON", "FREQ=DAILY;BYDAY=MOTU", "FREQ=DAILY;BYDAY=mo");
        noRules("FREQ=WEEKLY;BYDAY=MO,TU,WE,TH,FR,SA,SU,MO", "FREQ=MONTHLY;BYDAY=0MO", "FREQ=MONTHLY;BYDAY=6MO", "FREQ=MONTHLY;BYDAY=11MO");
        noRules("FREQ=MONTHLY;BYDAY=-MO", "FREQ=MONTHLY;BYDAY=--1MO", "FREQ=MONTHLY;BYDAY=1-MO", "FREQ=MONTHLY;BYDAY=+1MO");
        noRules("FREQ=MONTHLY;BYDAY=1", "FREQ=MONTHLY;BYDAY=-", "FREQ=MONTHLY;BYDAY=-1", "FREQ=MONTHLY;BYDAY=MO1", "FREQ=MONTHLY;BYDAY=01MO");
        noRules("FREQ=DAILY;BYMONTHDAY=", "FREQ=DAILY;BYMONTHDAY=0", "FREQ=DAILY;BYMONTHDAY=32", "FREQ=DAILY;BYMONTHDAY=-32");
        noRules("FREQ=DAILY;BYMONTHDAY=-0", "FREQ=DAILY;BYMONTHDAY=--1", "FREQ=DAILY;BYMONTHDAY=1,", "FREQ=DAILY;BYMONTHDAY=001");
        noRules("FREQ=DAILY;BYMONTHDAY=1,2,3,4,5,6,7,8,9", "FREQ=DAILY;BYMONTHDAY=-", "FREQ=DAILY;BYMONTHDAY=1-2", "FREQ=DAILY;BYMONTHDAY=MO");
        noRules("FREQ=DAILY;BYMONTH=", "FREQ=DAILY;BYMONTH=0", "FREQ=DAILY;BYMONTH=13", "FREQ=DAILY;BYMONTH=-1", "FREQ=DAILY;BYMONTH=1,");
        noRules("FREQ=DAILY;BYMONTH=1,2,3,4,5,6,7,8,9", "FREQ=DAILY;BYMONTH=001", "FREQ=DAILY;BYMONTH=,1");
    }

    private static void refusesBadPairs() {
        noRules("FREQ=DAILY;COUNT=3;UNTIL=20000101", "UNTIL=20000101;COUNT=3;FREQ=YEARLY");
        noRules("FREQ=DAILY;BYDAY=1MO", "FREQ=WEEKLY;BYDAY=1MO", "BYDAY=MO,-1TU;FREQ=WEEKLY", "BYDAY=-5SU;FREQ=DAILY");
        noRules("FREQ=WEEKLY;BYMONTHDAY=1", "BYMONTHDAY=-1;FREQ=WEEKLY");
    }
}
