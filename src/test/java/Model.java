import java.time.DayOfWeek;
import java.time.LocalDate;
import java.time.temporal.ChronoUnit;
import java.time.temporal.TemporalAdjusters;
import java.util.ArrayList;
import java.util.Arrays;
import java.util.HashMap;
import java.util.HashSet;
import java.util.List;
import java.util.Map;
import java.util.NoSuchElementException;
import java.util.Set;
import java.util.TreeSet;

/** The document once more, day by day and minute by minute, on the Java library: slow, and unlike the program. */
final class Model {
    private static final LocalDate FIRST = LocalDate.of(2000, 1, 1);
    private static final List<String> WEEKDAYS = Arrays.asList("MO", "TU", "WE", "TH", "FR", "SA", "SU");
    private static final String NUMBER = "\\d{1,2}";

    private final StringBuilder typed = new StringBuilder();
    private final List<Event> events = new ArrayList<>();
    private List<int[]> spans = new ArrayList<>();
    private int standard;
    private int summer;
    private final int[] begins = new int[100];
    private final int[] ends = new int[100];

    private static final class Event {
        private final int minute;
        private final int length;
        private final List<Integer> ruleDays;
        private final Set<Integer> excluded = new HashSet<>();

        Event(int minute, int length, List<Integer> ruleDays) {
            this.minute = minute;
            this.length = length;
            this.ruleDays = ruleDays;
        }

        List<Integer> days() {
            List<Integer> left = new ArrayList<>(ruleDays);
            left.removeAll(excluded);
            return left;
        }
    }

    Model() {
        zone(0, 0, 3, 5, 10, 5);
    }

    boolean type(char c) {
        if (typed.length() == 60) {
            return false;
        }
        typed.append(c);
        return true;
    }

    void zone(int newStandard, int newSummer, int begin, int n, int end, int m) {
        if (Math.abs((long) newStandard) > 840 || Math.abs((long) newSummer) > 840 || newSummer < newStandard || begin < 1
            || end > 12 || begin >= end || n < 1 || n > 5 || m < 1 || m > 5) {
            throw new IllegalArgumentException();
        }
        standard = newStandard;
        summer = newSummer;
        for (int year = 0; year < 100; year++) {
            begins[year] = 1440 * sunday(2000 + year, begin, n) + 120 - standard;
            ends[year] = 1440 * sunday(2000 + year, end, m) + 180 - summer;
        }
    }

    static int sunday(int year, int month, int n) {
        LocalDate first = LocalDate.of(year, month, 1);
        return dayOf(n == 5 ? first.with(TemporalAdjusters.lastInMonth(DayOfWeek.SUNDAY))
            : first.with(TemporalAdjusters.dayOfWeekInMonth(n, DayOfWeek.SUNDAY)));
    }

    private static int dayOf(LocalDate date) {
        return (int) ChronoUnit.DAYS.between(FIRST, date);
    }

    int event(int day, int minute, int length) {
        if (events.size() == 8) {
            throw new IllegalStateException();
        }
        String text = typed.toString();
        typed.setLength(0);
        if (day < 0 || day > 36524 || minute < 0 || minute > 1439 || length < 1 || length > 2880) {
            throw new IllegalArgumentException();
        }
        Map<String, String> parts = parse(text);
        if (parts == null) {
            throw new IllegalArgumentException();
        }
        events.add(new Event(minute, length, text.isEmpty() ? new ArrayList<>(List.of(day)) : daysOf(parts, day)));
        return events.size() - 1;
    }

    /** The values by name; null when the text is no rule. */
    static Map<String, String> parse(String text) {
        Map<String, String> parts = new HashMap<>();
        if (text.isEmpty()) {
            return parts;
        }
        for (String part : text.split(";", -1)) {
            int at = part.indexOf('=');
            if (at < 0 || parts.put(part.substring(0, at), part.substring(at + 1)) != null) {
                return null;
            }
        }
        for (Map.Entry<String, String> part : parts.entrySet()) {
            if (!isPart(part.getKey(), part.getValue())) {
                return null;
            }
        }
        String freq = parts.get("FREQ");
        boolean small = "DAILY".equals(freq) || "WEEKLY".equals(freq);
        if (freq == null || parts.containsKey("COUNT") && parts.containsKey("UNTIL")
            || small && parts.getOrDefault("BYDAY", "").matches(".*\\d.*")
            || freq.equals("WEEKLY") && parts.containsKey("BYMONTHDAY")) {
            return null;
        }
        return parts;
    }

    private static boolean isPart(String name, String values) {
        switch (name) {
            case "FREQ":
                return values.matches("DAILY|WEEKLY|MONTHLY|YEARLY");
            case "INTERVAL":
                return isIn(values, NUMBER, 1, 99);
            case "COUNT":
                return isIn(values, "\\d{1,3}", 1, 200);
            case "UNTIL":
                return values.matches("20\\d{6}") && isDate(values);
            case "BYDAY":
                return values.matches("(-?[1-5])?(MO|TU|WE|TH|FR|SA|SU)(,(-?[1-5])?(MO|TU|WE|TH|FR|SA|SU)){0,6}");
            case "BYMONTHDAY":
                return values.matches("-?\\d{1,2}(,-?\\d{1,2}){0,7}") && areIn(values, 31);
            case "BYMONTH":
                return values.matches("\\d{1,2}(,\\d{1,2}){0,7}") && areIn(values, 12);
            default:
                return false;
        }
    }

    private static boolean isIn(String value, String form, int low, int high) {
        return value.matches(form) && Integer.parseInt(value) >= low && Integer.parseInt(value) <= high;
    }

    private static boolean areIn(String values, int high) {
        for (String value : values.split(",")) {
            int number = Math.abs(Integer.parseInt(value));
            if (number < 1 || number > high) {
                return false;
            }
        }
        return true;
    }

    private static boolean isDate(String digits) {
        try {
            dateOf(digits);
            return true;
        } catch (java.time.DateTimeException e) {
            return false;
        }
    }

    private static LocalDate dateOf(String digits) {
        return LocalDate.of(Integer.parseInt(digits.substring(0, 4)), Integer.parseInt(digits.substring(4, 6)),
            Integer.parseInt(digits.substring(6)));
    }

    private static List<Integer> daysOf(Map<String, String> parts, int first) {
        int last = parts.containsKey("UNTIL") ? dayOf(dateOf(parts.get("UNTIL"))) : 36524;
        int count = Integer.parseInt(parts.getOrDefault("COUNT", "200"));
        List<Integer> days = new ArrayList<>();
        for (int day = first; day <= last && days.size() < count; day++) {
            if (isMeant(parts, FIRST.plusDays(first), FIRST.plusDays(day))) {
                days.add(day);
            }
        }
        return days;
    }

    private static boolean isMeant(Map<String, String> parts, LocalDate first, LocalDate date) {
        int interval = Integer.parseInt(parts.getOrDefault("INTERVAL", "1"));
        boolean byDay = parts.containsKey("BYDAY");
        boolean byMonthDay = parts.containsKey("BYMONTHDAY");
        if (parts.containsKey("BYMONTH") && !hasNumber(parts.get("BYMONTH"), date.getMonthValue())) {
            return false;
        }
        if (byMonthDay && !hasNumber(parts.get("BYMONTHDAY"), date.getDayOfMonth())
            && !hasNumber(parts.get("BYMONTHDAY"), date.getDayOfMonth() - date.lengthOfMonth() - 1)) {
            return false;
        }
        if (byDay && !hasWeekday(parts.get("BYDAY"), date)) {
            return false;
        }
        boolean like = byDay || byMonthDay || date.getDayOfMonth() == first.getDayOfMonth();
        switch (parts.get("FREQ")) {
            case "DAILY":
                return ChronoUnit.DAYS.between(first, date) % interval == 0;
            case "WEEKLY":
                return ChronoUnit.WEEKS.between(monday(first), monday(date)) % interval == 0
                    && (byDay || date.getDayOfWeek() == first.getDayOfWeek());
            case "MONTHLY":
                return ChronoUnit.MONTHS.between(first.withDayOfMonth(1), date.withDayOfMonth(1)) % interval == 0 && like;
            default:
                return (date.getYear() - first.getYear()) % interval == 0 && like
                    && (parts.containsKey("BYMONTH") || date.getMonthValue() == first.getMonthValue());
        }
    }

    private static LocalDate monday(LocalDate date) {
        return date.with(TemporalAdjusters.previousOrSame(DayOfWeek.MONDAY));
    }

    private static boolean hasNumber(String values, int number) {
        for (String value : values.split(",")) {
            if (Integer.parseInt(value) == number) {
                return true;
            }
        }
        return false;
    }

    private static boolean hasWeekday(String values, LocalDate date) {
        for (String value : values.split(",")) {
            int cut = value.length() - 2;
            DayOfWeek weekday = DayOfWeek.of(WEEKDAYS.indexOf(value.substring(cut)) + 1);
            if (weekday != date.getDayOfWeek()) {
                continue;
            }
            if (cut == 0 || date.equals(date.with(TemporalAdjusters.dayOfWeekInMonth(Integer.parseInt(value.substring(0, cut)), weekday)))) {
                return true;
            }
        }
        return false;
    }

    private Event find(int event) {
        if (event < 0 || event >= events.size()) {
            throw new NoSuchElementException();
        }
        return events.get(event);
    }

    boolean exclude(int event, int day) {
        Event found = find(event);
        return found.ruleDays.contains(day) && found.excluded.size() < 12 && found.excluded.add(day);
    }

    int times(int event) {
        return find(event).days().size();
    }

    int day(int event, int k) {
        List<Integer> days = find(event).days();
        if (k < 0 || k >= days.size()) {
            throw new NoSuchElementException();
        }
        return days.get(k);
    }

    int moment(int event, int k) {
        return momentOf(1440 * day(event, k) + find(event).minute);
    }

    private boolean isSummer(int moment) {
        for (int year = 0; year < 100; year++) {
            if (begins[year] <= moment && moment < ends[year]) {
                return true;
            }
        }
        return false;
    }

    private int momentOf(int local) {
        return isSummer(local - summer) ? local - summer : local - standard;
    }

    int local(int moment) {
        return moment + (isSummer(moment) ? summer : standard);
    }

    int date(int year, int month, int number) {
        try {
            return year < 2000 || year > 2099 ? -1 : dayOf(LocalDate.of(year, month, number));
        } catch (java.time.DateTimeException e) {
            return -1;
        }
    }

    int busy(int from, int to) {
        if (to <= from || (long) to - from > 200000) {
            throw new IllegalArgumentException();
        }
        boolean[] minutes = new boolean[to - from];
        for (Event event : events) {
            for (int day : event.days()) {
                int start = momentOf(1440 * day + event.minute);
                for (int i = 0; i < event.length; i++) {
                    long at = (long) start + i - from;
                    if (at >= 0 && at < minutes.length) {
                        minutes[(int) at] = true;
                    }
                }
            }
        }
        spans = new ArrayList<>();
        for (int i = 0; i < minutes.length; i++) {
            if (minutes[i] && (i == 0 || !minutes[i - 1])) {
                spans.add(new int[] {from + i, to});
            }
            if (!minutes[i] && i > 0 && minutes[i - 1]) {
                spans.get(spans.size() - 1)[1] = from + i;
            }
        }
        return spans.size();
    }

    int span(int k, boolean end) {
        if (k < 0 || k >= spans.size()) {
            throw new NoSuchElementException();
        }
        return spans.get(k)[end ? 1 : 0];
    }

    int clash(int a, int b) {
        Event first = find(a);
        Event second = find(b);
        TreeSet<Integer> shared = new TreeSet<>();
        for (int day : first.days()) {
            int start = momentOf(1440 * day + first.minute);
            for (int other : second.days()) {
                int otherStart = momentOf(1440 * other + second.minute);
                int begin = Math.max(start, otherStart);
                if (begin < Math.min(start + first.length, otherStart + second.length)) {
                    shared.add(begin);
                }
            }
        }
        return shared.isEmpty() ? -1 : shared.first();
    }
}
