import java.util.NoSuchElementException;

/** A book of events that come again by rules written as texts, in a zone with summer time. */
public final class RecurrenceBook {
    private static final int MOST_TYPED = 60;
    private static final int MOST_EVENTS = 8;
    private static final int MOST_DAYS = 200;
    private static final int MOST_EXCLUDED = 12;
    private static final int MOST_OFFSET = 840;
    private static final int MOST_LENGTH = 2880;
    private static final int WIDEST_BUSY = 200000;
    private static final int DAY_MINUTES = 1440;
    private static final int LAST_DAY = 36524;
    private static final int YEARS = 100;
    private static final int FIRST_YEAR = 2000;
    private static final int MONTHS = 12 * YEARS;

    private final char[] typed;
    private int typedCount;
    private final Zone present;
    private final Event[] events;
    private int eventCount;
    private final int[] heads;
    private final Spans latest;

    public RecurrenceBook() {
        typed = new char[MOST_TYPED];
        typedCount = 0;
        present = new Zone();
        present.change(0, 0, 3, 5, 10, 5);
        events = new Event[MOST_EVENTS];
        for (int i = 0; i < MOST_EVENTS; i++) {
            events[i] = new Event();
        }
        eventCount = 0;
        heads = new int[MOST_EVENTS];
        latest = new Spans();
    }

    public boolean type(char c) {
        if (typedCount >= MOST_TYPED) {
            return false;
        }
        typed[typedCount] = c;
        typedCount++;
        return true;
    }

    public void zone(int standard, int summer, int begin, int n, int end, int m) throws IllegalArgumentException {
        if (!isOffset(standard) || !isOffset(summer) || summer < standard) {
            throw new IllegalArgumentException("offset");
        }
        if (!isMonth(begin) || !isMonth(end) || begin >= end) {
            throw new IllegalArgumentException("month");
        }
        if (n < 1 || n > 5 || m < 1 || m > 5) {
            throw new IllegalArgumentException("number of the Sunday");
        }
        present.change(standard, summer, begin, n, end, m);
        for (int i = 0; i < eventCount; i++) {
            events[i].settle(present);
        }
    }

    public int event(int day, int minute, int length) throws IllegalStateException, IllegalArgumentException {
        if (eventCount >= MOST_EVENTS) {
            throw new IllegalStateException("no room for an event");
        }
        RuleReader reader = new RuleReader(typed, typedCount);
        typedCount = 0;
        if (!isDay(day) || minute < 0 || minute >= DAY_MINUTES || length < 1 || length > MOST_LENGTH) {
            throw new IllegalArgumentException("day, minute or length");
        }
        if (!reader.readRule()) {
            throw new IllegalArgumentException("no rule");
        }
        Event made = events[eventCount];
        made.begin(minute, length, new Unfolding(reader.rule, day, made.days).unfold());
        made.settle(present);
        eventCount++;
        return eventCount - 1;
    }

    public boolean exclude(int event, int day) throws NoSuchElementException {
        Event found = findEvent(event);
        if (!found.leaveOut(day)) {
            return false;
        }
        found.settle(present);
        return true;
    }

    public int times(int event) throws NoSuchElementException {
        return findEvent(event).count;
    }

    public int day(int event, int k) throws NoSuchElementException {
        return findTime(event, k);
    }

    public int moment(int event, int k) throws NoSuchElementException {
        int found = findTime(event, k);
        return present.momentOf(DAY_MINUTES * found + findEvent(event).minute);
    }

    public int local(int moment) {
        return moment + present.offsetAt(moment);
    }

    public int date(int year, int month, int number) {
        return Dates.dayOf(year, month, number);
    }

    public int busy(int from, int to) throws IllegalArgumentException {
        // As long, for the width of two ints may be beyond an int.
        if (to <= from || (long) to - (long) from > WIDEST_BUSY) {
            throw new IllegalArgumentException("width");
        }
        latest.open(from, to);
        for (int i = 0; i < eventCount; i++) {
            heads[i] = 0;
        }
        for (int step = 0; step < MOST_EVENTS * MOST_DAYS; step++) {
            int next = earliestHead();
            if (next < 0) {
                break;
            }
            int start = events[next].starts[heads[next]];
            latest.add(start, start + events[next].length);
            heads[next]++;
        }
        return latest.count;
    }

    public int span(int k, boolean end) throws NoSuchElementException {
        if (k < 0 || k >= latest.count) {
            throw new NoSuchElementException("no such span");
        }
        return end ? latest.ends[k] : latest.begins[k];
    }

    public int clash(int a, int b) throws NoSuchElementException {
        return firstShared(findEvent(a), findEvent(b));
    }

    private Event findEvent(int number) {
        if (number < 0 || number >= eventCount) {
            throw new NoSuchElementException("no such event");
        }
        return events[number];
    }

    private int findTime(int number, int k) {
        Event found = findEvent(number);
        if (k < 0 || k >= found.count) {
            throw new NoSuchElementException("no such time");
        }
        return found.days[k];
    }

    /** The event whose next start, by heads, is the earliest one; -1 when all are used up. */
    private int earliestHead() {
        int best = -1;
        int bestStart = 0;
        for (int i = 0; i < eventCount; i++) {
            if (heads[i] < events[i].count) {
                int start = events[i].starts[heads[i]];
                if (best < 0 || start < bestStart) {
                    best = i;
                    bestStart = start;
                }
            }
        }
        return best;
    }

    /** All times of an event are as long as one another, so its ends are in order where its starts are. */
    private static int firstShared(Event a, Event b) {
        int i = 0;
        int j = 0;
        while (i < a.count && j < b.count) {
            int startA = a.starts[i];
            int startB = b.starts[j];
            if (startA + a.length <= startB) {
                i++;
            } else if (startB + b.length <= startA) {
                j++;
            } else {
                return Math.max(startA, startB);
            }
        }
        return -1;
    }

    private static boolean isOffset(int minutes) {
        return minutes >= -MOST_OFFSET && minutes <= MOST_OFFSET;
    }

    private static boolean isMonth(int month) {
        return month >= 1 && month <= 12;
    }

    private static boolean isDay(int day) {
        return day >= 0 && day <= LAST_DAY;
    }

    /** The calendar; months here count from 0, January 2000, on, and years from 0, 2000, on. */
    private static final class Dates {
        private static final int[] DAYS_BEFORE_MONTH = {0, 31, 59, 90, 120, 151, 181, 212, 243, 273, 304, 334};
        private static final int FOUR_YEARS = 1461;

        private Dates() {
        }

        /** MO is 0. */
        static int weekdayOf(int day) {
            return (day + 5) % 7;
        }

        static int yearOf(int day) {
            return 4 * day / FOUR_YEARS;
        }

        static int monthStart(int month) {
            int year = month / 12;
            int ofYear = Math.floorMod(month, 12);
            int leapDay = ofYear >= 2 && year % 4 == 0 ? 1 : 0;
            return 365 * year + (year + 3) / 4 + DAYS_BEFORE_MONTH[ofYear] + leapDay;
        }

        static int monthOf(int day) {
            int january = 12 * yearOf(day);
            // No month begins more than 7 days before 31 times its number, so this is at most one too low.
            int guess = january + (day - monthStart(january)) / 31;
            return monthStart(guess + 1) <= day ? guess + 1 : guess;
        }

        static int dayOf(int year, int month, int number) {
            if (year < FIRST_YEAR || year >= FIRST_YEAR + YEARS || !isMonth(month)) {
                return -1;
            }
            int index = 12 * (year - FIRST_YEAR) + month - 1;
            int start = monthStart(index);
            if (number < 1 || number > monthStart(index + 1) - start) {
                return -1;
            }
            return start + number - 1;
        }

        /** The n-th SU of a month; with n 5 the last one, which may be the fourth. */
        static int sundayOf(int month, int n) {
            int start = monthStart(month);
            int sunday = start + 6 - weekdayOf(start) + 7 * (n - 1);
            return sunday < monthStart(month + 1) ? sunday : sunday - 7;
        }
    }

    /** Two offsets, and for each year the moments between which it is summer. */
    private static final class Zone {
        private static final int BEGIN_MINUTE = 120;
        private static final int END_MINUTE = 180;

        private int standard;
        private int summer;
        private final int[] begins;
        private final int[] ends;

        Zone() {
            begins = new int[YEARS];
            ends = new int[YEARS];
        }

        void change(int newStandard, int newSummer, int begin, int n, int end, int m) {
            standard = newStandard;
            summer = newSummer;
            for (int year = 0; year < YEARS; year++) {
                int beginDay = Dates.sundayOf(12 * year + begin - 1, n);
                int endDay = Dates.sundayOf(12 * year + end - 1, m);
                begins[year] = DAY_MINUTES * beginDay + BEGIN_MINUTE - standard;
                ends[year] = DAY_MINUTES * endDay + END_MINUTE - summer;
            }
        }

        boolean isSummer(int moment) {
            // A high offset may carry a begin into the year before; no end goes behind its day.
            int year = Dates.yearOf(moment / DAY_MINUTES);
            int last = Math.min(YEARS - 1, year + 1);
            for (int y = Math.max(0, year); y <= last; y++) {
                if (begins[y] <= moment && moment < ends[y]) {
                    return true;
                }
            }
            return false;
        }

        int offsetAt(int moment) {
            return isSummer(moment) ? summer : standard;
        }

        int momentOf(int localTime) {
            return isSummer(localTime - summer) ? localTime - summer : localTime - standard;
        }
    }

    private enum Frequency { DAILY, WEEKLY, MONTHLY, YEARLY }

    /** A rule that was read; a number or set that was not written is 0. */
    private static final class Rule {
        private Frequency frequency;
        private int interval;
        private int count;
        private boolean hasUntil;
        private int until;
        private int months;
        private int numbers;
        private int numbersFromEnd;
        private int weekdays;
        private long nth;
        private long nthFromEnd;

        Rule() {
            frequency = null;
            until = LAST_DAY;
        }

        void addNumber(int number, boolean fromEnd) {
            if (fromEnd) {
                numbersFromEnd |= 1 << number;
            } else {
                numbers |= 1 << number;
            }
        }

        /** An n of 0 means every one of these weekdays. */
        void addWeekday(int weekday, int n, boolean fromEnd) {
            if (n == 0) {
                weekdays |= 1 << weekday;
            } else if (fromEnd) {
                nthFromEnd |= nthBit(weekday, n);
            } else {
                nth |= nthBit(weekday, n);
            }
        }

        private static long nthBit(int weekday, int n) {
            return 1L << (7 * n + weekday);
        }

        boolean hasNthWeekdays() {
            return (nth | nthFromEnd) != 0;
        }

        boolean hasWeekdays() {
            return (weekdays | nth | nthFromEnd) != 0;
        }

        boolean hasNumbers() {
            return (numbers | numbersFromEnd) != 0;
        }

        boolean allowsMonth(int month) {
            return months == 0 || (months & (1 << (month % 12 + 1))) != 0;
        }

        boolean allowsNumber(int number, int monthLength) {
            if (!hasNumbers()) {
                return true;
            }
            int fromEnd = monthLength - number + 1;
            return (numbers & (1 << number)) != 0 || (numbersFromEnd & (1 << fromEnd)) != 0;
        }

        boolean allowsWeekday(int weekday, int number, int monthLength) {
            if (!hasWeekdays() || (weekdays & (1 << weekday)) != 0) {
                return true;
            }
            int n = (number - 1) / 7 + 1;
            int fromEnd = (monthLength - number) / 7 + 1;
            return (nth & nthBit(weekday, n)) != 0 || (nthFromEnd & nthBit(weekday, fromEnd)) != 0;
        }

        boolean isAllowed() {
            if (frequency == null || (count != 0 && hasUntil)) {
                return false;
            }
            if (frequency == Frequency.WEEKLY && hasNumbers()) {
                return false;
            }
            boolean byMonths = frequency == Frequency.MONTHLY || frequency == Frequency.YEARLY;
            return byMonths || !hasNthWeekdays();
        }
    }

    /** Reads a rule from left to right; each read method says whether what it looks for stood there. */
    private static final class RuleReader {
        private static final int PART_NAMES = 7;
        private static final int MOST_WEEKDAYS = 7;
        private static final int MOST_NUMBERS = 8;
        private static final String WEEKDAY_LETTERS = "MOTUWETHFRSASU";

        private final char[] text;
        private final int length;
        private int at;
        private final Rule rule;

        RuleReader(char[] text, int length) {
            this.text = text;
            this.length = length;
            at = 0;
            rule = new Rule();
        }

        boolean readRule() {
            if (length == 0) {
                rule.frequency = Frequency.DAILY;
                rule.count = 1;
                return true;
            }
            // Each name comes at most once, so there are no more parts than names.
            for (int part = 0; part < PART_NAMES; part++) {
                if (!readPart()) {
                    return false;
                }
                if (at >= length) {
                    return rule.isAllowed();
                }
                if (!take(';')) {
                    return false;
                }
            }
            return false;
        }

        private boolean readPart() {
            if (takeWord("FREQ=")) {
                return rule.frequency == null && readFrequency();
            }
            if (takeWord("INTERVAL=")) {
                return rule.interval == 0 && readInterval();
            }
            if (takeWord("COUNT=")) {
                return rule.count == 0 && readCount();
            }
            if (takeWord("UNTIL=")) {
                return !rule.hasUntil && readUntil();
            }
            if (takeWord("BYDAY=")) {
                return !rule.hasWeekdays() && readWeekdays();
            }
            if (takeWord("BYMONTHDAY=")) {
                return !rule.hasNumbers() && readNumbers();
            }
            return takeWord("BYMONTH=") && rule.months == 0 && readMonths();
        }

        private boolean readFrequency() {
            if (takeWord("DAILY")) {
                rule.frequency = Frequency.DAILY;
            } else if (takeWord("WEEKLY")) {
                rule.frequency = Frequency.WEEKLY;
            } else if (takeWord("MONTHLY")) {
                rule.frequency = Frequency.MONTHLY;
            } else if (takeWord("YEARLY")) {
                rule.frequency = Frequency.YEARLY;
            }
            return rule.frequency != null;
        }

        private boolean readInterval() {
            rule.interval = takeNumber(2, 99);
            return rule.interval != 0;
        }

        private boolean readCount() {
            rule.count = takeNumber(3, MOST_DAYS);
            return rule.count != 0;
        }

        private boolean readUntil() {
            int start = at;
            int digits = takeNumber(8, 99999999);
            if (at - start != 8) {
                return false;
            }
            int day = Dates.dayOf(digits / 10000, digits / 100 % 100, digits % 100);
            rule.hasUntil = true;
            rule.until = day;
            return day >= 0;
        }

        private boolean readWeekdays() {
            for (int i = 0; i < MOST_WEEKDAYS; i++) {
                if (!readWeekday()) {
                    return false;
                }
                if (!take(',')) {
                    return true;
                }
            }
            return false;
        }

        private boolean readWeekday() {
            boolean fromEnd = take('-');
            int n = 0;
            if (fromEnd || isDigitNext()) {
                n = takeNumber(1, 5);
                if (n == 0) {
                    return false;
                }
            }
            int weekday = takeWeekday();
            if (weekday < 0) {
                return false;
            }
            rule.addWeekday(weekday, n, fromEnd);
            return true;
        }

        private boolean readNumbers() {
            for (int i = 0; i < MOST_NUMBERS; i++) {
                boolean fromEnd = take('-');
                int number = takeNumber(2, 31);
                if (number == 0) {
                    return false;
                }
                rule.addNumber(number, fromEnd);
                if (!take(',')) {
                    return true;
                }
            }
            return false;
        }

        private boolean readMonths() {
            for (int i = 0; i < MOST_NUMBERS; i++) {
                int month = takeNumber(2, 12);
                if (month == 0) {
                    return false;
                }
                rule.months |= 1 << month;
                if (!take(',')) {
                    return true;
                }
            }
            return false;
        }

        private int takeWeekday() {
            if (at + 1 >= length) {
                return -1;
            }
            for (int weekday = 0; weekday < 7; weekday++) {
                boolean first = text[at] == WEEKDAY_LETTERS.charAt(2 * weekday);
                if (first && text[at + 1] == WEEKDAY_LETTERS.charAt(2 * weekday + 1)) {
                    at += 2;
                    return weekday;
                }
            }
            return -1;
        }

        /** 0 when no number from 1 to the highest one stands here: no rule has a number 0. */
        private int takeNumber(int mostDigits, int highest) {
            int number = 0;
            for (int i = 0; i < mostDigits && isDigitNext(); i++) {
                number = 10 * number + text[at] - '0';
                at++;
            }
            return number <= highest ? number : 0;
        }

        private boolean isDigitNext() {
            return at < length && text[at] >= '0' && text[at] <= '9';
        }

        private boolean take(char c) {
            if (at >= length || text[at] != c) {
                return false;
            }
            at++;
            return true;
        }

        private boolean takeWord(String word) {
            if (word.length() > length - at) {
                return false;
            }
            for (int i = 0; i < word.length(); i++) {
                if (text[at + i] != word.charAt(i)) {
                    return false;
                }
            }
            at += word.length();
            return true;
        }
    }

    /** Writes the days of a rule with a first day into a row, period by period. */
    private static final class Unfolding {
        private final Rule rule;
        private final int first;
        private final int firstMonth;
        private final int firstNumber;
        private final int firstWeekday;
        private final int interval;
        private final int limit;
        private final int[] row;
        private int count;
        private int monthStart;
        private int monthLength;
        private boolean monthMeant;

        Unfolding(Rule rule, int first, int[] row) {
            this.rule = rule;
            this.first = first;
            this.row = row;
            firstMonth = Dates.monthOf(first);
            firstNumber = first - Dates.monthStart(firstMonth) + 1;
            firstWeekday = Dates.weekdayOf(first);
            interval = Math.max(1, rule.interval);
            limit = Math.min(row.length, rule.count == 0 ? MOST_DAYS : rule.count);
            count = 0;
        }

        /** How many days there are. */
        int unfold() {
            enterMonth(firstMonth);
            if (rule.frequency == Frequency.DAILY) {
                addDays();
            } else if (rule.frequency == Frequency.WEEKLY) {
                addWeeks();
            } else if (rule.frequency == Frequency.MONTHLY) {
                addMonths();
            } else {
                addYears();
            }
            return count;
        }

        private void addDays() {
            for (int day = first; day <= rule.until && count < limit; day += interval) {
                followMonth(day);
                if (monthMeant && isMeantInMonth(day)) {
                    add(day);
                }
            }
        }

        private void addWeeks() {
            int weekdays = rule.weekdays != 0 ? rule.weekdays : 1 << firstWeekday;
            for (int monday = first - firstWeekday; monday <= rule.until && count < limit; monday += 7 * interval) {
                for (int weekday = 0; weekday < 7; weekday++) {
                    followMonth(monday + weekday);
                    if (monthMeant && (weekdays & (1 << weekday)) != 0) {
                        add(monday + weekday);
                    }
                }
            }
        }

        private void addMonths() {
            for (int month = firstMonth; month < MONTHS && count < limit; month += interval) {
                addMonth(month);
            }
        }

        private void addYears() {
            int monthOfYear = firstMonth % 12;
            for (int january = firstMonth - monthOfYear; january < MONTHS && count < limit; january += 12 * interval) {
                for (int i = 0; i < 12; i++) {
                    if (rule.months != 0 || i == monthOfYear) {
                        addMonth(january + i);
                    }
                }
            }
        }

        private void addMonth(int month) {
            enterMonth(month);
            if (!monthMeant) {
                return;
            }
            boolean likeFirst = !rule.hasNumbers() && !rule.hasWeekdays();
            for (int number = 1; number <= monthLength; number++) {
                int day = monthStart + number - 1;
                if (likeFirst ? number == firstNumber : isMeantInMonth(day)) {
                    add(day);
                }
            }
        }

        private void enterMonth(int month) {
            monthStart = Dates.monthStart(month);
            monthLength = Dates.monthStart(month + 1) - monthStart;
            monthMeant = rule.allowsMonth(month);
        }

        /** Only forward: a day before the first one's month is before the first day, and so never added. */
        private void followMonth(int day) {
            if (day >= monthStart + monthLength) {
                enterMonth(Dates.monthOf(day));
            }
        }

        private boolean isMeantInMonth(int day) {
            int number = day - monthStart + 1;
            return rule.allowsNumber(number, monthLength)
                && rule.allowsWeekday(Dates.weekdayOf(day), number, monthLength);
        }

        private void add(int day) {
            if (day >= first && day <= rule.until && count < limit) {
                row[count] = day;
                count++;
            }
        }
    }

    /** The times of an event: by day, and by the moment at which they start. */
    private static final class Event {
        private final int[] days;
        private final int[] starts;
        private int count;
        private int excluded;
        private int minute;
        private int length;

        Event() {
            days = new int[MOST_DAYS];
            starts = new int[MOST_DAYS];
        }

        /** The row of days is filled already. */
        void begin(int newMinute, int newLength, int newCount) {
            minute = newMinute;
            length = newLength;
            count = newCount;
            excluded = 0;
        }

        /** A day that is left out is no more in the row, so it can't be left out again. */
        boolean leaveOut(int day) {
            int at = 0;
            while (at < count && days[at] != day) {
                at++;
            }
            if (at >= count || excluded >= MOST_EXCLUDED) {
                return false;
            }
            for (int i = at; i + 1 < count; i++) {
                days[i] = days[i + 1];
            }
            count--;
            excluded++;
            return true;
        }

        /**
         * Summer may take more than a day from a moment, so a later day may start at an earlier moment:
         * the starts are put in order.
         */
        void settle(Zone zone) {
            for (int i = 0; i < count; i++) {
                int start = zone.momentOf(DAY_MINUTES * days[i] + minute);
                int at = i;
                while (at > 0 && starts[at - 1] > start) {
                    starts[at] = starts[at - 1];
                    at--;
                }
                starts[at] = start;
            }
        }
    }

    /** The spans of a busy, put together from times that come in the order of their starts. */
    private static final class Spans {
        private final int[] begins;
        private final int[] ends;
        private int count;
        private int from;
        private int to;

        Spans() {
            begins = new int[MOST_EVENTS * MOST_DAYS];
            ends = new int[MOST_EVENTS * MOST_DAYS];
            count = 0;
        }

        void open(int newFrom, int newTo) {
            from = newFrom;
            to = newTo;
            count = 0;
        }

        void add(int start, int end) {
            int begin = Math.max(start, from);
            int stop = Math.min(end, to);
            if (begin >= stop) {
                return;
            }
            if (count > 0 && begin <= ends[count - 1]) {
                ends[count - 1] = Math.max(ends[count - 1], stop);
            } else if (count < begins.length) {
                begins[count] = begin;
                ends[count] = stop;
                count++;
            }
        }
    }
}
