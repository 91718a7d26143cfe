import java.util.Random;
import java.util.function.LongSupplier;

/** Long mixed runs, at most 512 calls each, of the program beside the model; the seeds are fixed. */
public final class ModelTest {
    private static final int CALLS = 512;
    private static final String[] FREQUENCIES = {"DAILY", "WEEKLY", "MONTHLY", "YEARLY"};
    private static final String[] WEEKDAYS = {"MO", "TU", "WE", "TH", "FR", "SA", "SU"};
    private static final String NOISE = "0123456789-,;=MOTUWEHFRSAYBQ x";

    private final Random random;
    private final RecurrenceBook book = new RecurrenceBook();
    private final Model model = new Model();
    private int calls = 0;
    private int near = 0;

    private ModelTest(long seed) {
        random = new Random(seed);
    }

    public static void main(String[] args) {
        int runs = args.length > 0 ? Integer.parseInt(args[0]) : 300;
        for (int seed = 0; seed < runs; seed++) {
            new ModelTest(seed).run(seed);
        }
        Checks.finish("ModelTest");
    }

    private void run(int seed) {
        while (calls < CALLS) {
            int kind = random.nextInt(100);
            if (kind < 12) {
                callEvent(seed);
            } else if (kind < 22) {
                callZone(seed);
            } else if (kind < 55) {
                callTimes(seed);
            } else if (kind < 65) {
                callLocal(seed);
            } else if (kind < 70) {
                callDate(seed);
            } else if (kind < 78) {
                callBusy(seed);
            } else if (kind < 92) {
                callSpan(seed);
            } else {
                callClash(seed);
            }
        }
    }

    /** An exception counts as an answer of its own. */
    private void same(String call, LongSupplier got, LongSupplier want) {
        if (calls < CALLS) {
            calls++;
            Checks.due(call, answer(got), answer(want));
        }
    }

    private static long answer(LongSupplier call) {
        long[] answer = new long[1];
        int kind = Checks.thrown(() -> answer[0] = call.getAsLong());
        return kind == Checks.NOTHING ? answer[0] : Long.MAX_VALUE - kind;
    }

    private int below(int bound) {
        return random.nextInt(bound);
    }

    private boolean oneIn(int n) {
        return below(n) == 0;
    }

    private void callEvent(int seed) {
        String text = ruleText();
        for (int i = 0; i < text.length(); i++) {
            char c = text.charAt(i);
            same("run " + seed + ": type(" + c + ")", () -> book.type(c) ? 1 : 0, () -> model.type(c) ? 1 : 0);
        }
        int day = firstDay();
        int minute = oneIn(30) ? below(4) * 1440 - 1 : below(1440);
        int length = oneIn(30) ? below(2) * 2881 : oneIn(3) ? 1 + below(2880) : 1 + below(200);
        near = Math.max(0, day);
        same("run " + seed + ": event(" + day + ", " + minute + ", " + length + ") of " + text,
            () -> book.event(day, minute, length), () -> model.event(day, minute, length));
    }

    private int firstDay() {
        int kind = below(20);
        if (kind == 0) {
            return -1 + below(2) * 36526;
        }
        // Around the last SU of March 2000 summer often begins, and so days come out of order.
        if (kind < 3) {
            return 78 + below(10);
        }
        return kind < 6 ? below(36525) : kind < 8 ? 36524 - below(500) : kind < 14 ? below(1500) : near;
    }

    private String ruleText() {
        if (oneIn(12)) {
            return "";
        }
        String frequency = FREQUENCIES[below(4)];
        StringBuilder text = new StringBuilder("FREQ=").append(frequency);
        boolean digits = frequency.charAt(0) == 'M' || frequency.charAt(0) == 'Y' || oneIn(20);
        addPart(text, oneIn(3), "INTERVAL=" + (oneIn(2) ? 1 + below(4) : below(101)));
        addPart(text, oneIn(5), "COUNT=" + (oneIn(2) ? 1 + below(9) : below(203)));
        addPart(text, oneIn(5), "UNTIL=" + (2000 + below(oneIn(2) ? 5 : 100)) + two(1 + below(12)) + two(1 + below(oneIn(9) ? 31 : 28)));
        addPart(text, oneIn(2), "BYDAY=" + weekdayList(digits));
        addPart(text, !frequency.equals("WEEKLY") && oneIn(3) || oneIn(20), "BYMONTHDAY=" + numberList(31, true));
        addPart(text, oneIn(3), "BYMONTH=" + numberList(12, false));
        if (oneIn(8)) {
            int at = below(text.length());
            char noise = NOISE.charAt(below(NOISE.length()));
            if (oneIn(2)) {
                text.setCharAt(at, noise);
            } else if (oneIn(2)) {
                text.insert(at, noise);
            } else {
                text.deleteCharAt(at);
            }
        }
        return text.toString();
    }

    private void addPart(StringBuilder text, boolean wanted, String part) {
        if (!wanted || text.length() + part.length() > 59 && !oneIn(10)) {
            return;
        }
        if (oneIn(2)) {
            text.append(';').append(part);
        } else {
            text.insert(0, part + ";");
        }
    }

    private static String two(int number) {
        return number < 10 ? "0" + number : "" + number;
    }

    private String weekdayList(boolean digits) {
        StringBuilder text = new StringBuilder();
        int count = 1 + below(oneIn(10) ? 8 : 3);
        for (int i = 0; i < count; i++) {
            text.append(i == 0 ? "" : ",");
            if (digits && oneIn(2)) {
                text.append(oneIn(2) ? "-" : "").append(oneIn(40) ? 6 * below(2) : 1 + below(5));
            }
            text.append(WEEKDAYS[below(7)]);
        }
        return text.toString();
    }

    private String numberList(int highest, boolean signs) {
        StringBuilder text = new StringBuilder();
        int count = 1 + below(oneIn(10) ? 9 : 4);
        for (int i = 0; i < count; i++) {
            int number = oneIn(60) ? below(2) * (highest + 1) : 1 + below(highest);
            text.append(i == 0 ? "" : ",").append(signs && oneIn(2) ? "-" : "");
            text.append(oneIn(10) ? two(number) : "" + number);
        }
        return text.toString();
    }

    private void callZone(int seed) {
        boolean extreme = oneIn(5);
        int one = extreme ? 840 - below(100) : oneIn(3) ? 60 * (below(29) - 14) : below(1683) - 841;
        int two = extreme ? -840 + below(100) : oneIn(2) ? one + 60 : below(1683) - 841;
        int standard = oneIn(20) ? two : Math.min(one, two);
        int summer = Math.max(one, two);
        int begin = oneIn(4) ? 3 : oneIn(30) ? 13 * below(2) : 1 + below(11);
        int end = oneIn(20) ? begin : Math.min(begin + 1 + below(12), oneIn(20) ? 13 : 12);
        int n = oneIn(40) ? 6 * below(2) : 1 + below(5);
        int m = oneIn(40) ? 6 * below(2) : 1 + below(5);
        same("run " + seed + ": zone(" + standard + ", " + summer + ", " + begin + ", " + n + ", " + end + ", " + m + ")",
            () -> { book.zone(standard, summer, begin, n, end, m); return 0; },
            () -> { model.zone(standard, summer, begin, n, end, m); return 0; });
    }

    private void callTimes(int seed) {
        int event = oneIn(30) ? below(11) - 1 : below(5);
        int times = (int) Math.min(answer(() -> model.times(event)), 200);
        int k = oneIn(10) ? below(203) - 1 : times > 0 ? below(times) : 0;
        String run = "run " + seed + ": ";
        same(run + "times(" + event + ")", () -> book.times(event), () -> model.times(event));
        same(run + "day(" + event + ", " + k + ")", () -> book.day(event, k), () -> model.day(event, k));
        same(run + "moment(" + event + ", " + k + ")", () -> book.moment(event, k), () -> model.moment(event, k));
        if (oneIn(2)) {
            int found = (int) Math.min(answer(() -> model.day(event, k)), 40000);
            int day = oneIn(4) ? below(1000) : found;
            near = Math.min(found, 36524);
            same(run + "exclude(" + event + ", " + day + ")", () -> book.exclude(event, day) ? 1 : 0, () -> model.exclude(event, day) ? 1 : 0);
        }
    }

    private void callLocal(int seed) {
        int moment = oneIn(8) ? random.nextInt() : oneIn(2) ? below(1440 * 36525) : 1440 * near + below(4000) - 2000;
        same("run " + seed + ": local(" + moment + ")", () -> book.local(moment), () -> model.local(moment));
    }

    private void callDate(int seed) {
        int year = 1998 + below(104);
        int month = oneIn(4) ? 2 : below(14);
        int number = oneIn(2) ? 27 + below(6) : below(33);
        same("run " + seed + ": date(" + year + ", " + month + ", " + number + ")",
            () -> book.date(year, month, number), () -> model.date(year, month, number));
    }

    private void callBusy(int seed) {
        int from = oneIn(10) ? random.nextInt() : 1440 * near - 5000 + below(oneIn(2) ? 6000 : 100000);
        int width = oneIn(20) ? below(3) * 100001 - 1 : oneIn(2) ? 1 + below(200000) : 1 + below(5000);
        int to = from + width;
        same("run " + seed + ": busy(" + from + ", " + to + ")", () -> book.busy(from, to), () -> model.busy(from, to));
    }

    private void callSpan(int seed) {
        int k = oneIn(2) ? below(4) - 1 : below(200);
        same("run " + seed + ": span(" + k + ", false)", () -> book.span(k, false), () -> model.span(k, false));
        same("run " + seed + ": span(" + k + ", true)", () -> book.span(k, true), () -> model.span(k, true));
    }

    private void callClash(int seed) {
        int a = oneIn(30) ? below(11) - 1 : below(4);
        int b = oneIn(30) ? below(11) - 1 : below(4);
        same("run " + seed + ": clash(" + a + ", " + b + ")", () -> book.clash(a, b), () -> model.clash(a, b));
    }
}
