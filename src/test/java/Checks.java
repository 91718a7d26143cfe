import java.time.LocalDate;
import java.time.temporal.ChronoUnit;
import java.util.NoSuchElementException;

/** What the tests share: counting wrong answers, and typing texts. */
final class Checks {
    static final int NOTHING = 0;
    static final int STATE = 1;
    static final int ARGUMENT = 2;
    static final int ELEMENT = 3;
    static final int OTHER = 4;

    private static int wrong = 0;

    private Checks() {
    }

    static void due(String call, long got, long want) {
        if (got != want) {
            wrong++;
            System.out.println(call + " answered " + got + ", due is " + want);
        }
    }

    static void due(String call, boolean got, boolean want) {
        due(call, got ? 1 : 0, want ? 1 : 0);
    }

    /** The kind of exception that a call throws: these very classes, for one below them is not what is promised. */
    static int thrown(Runnable call) {
        try {
            call.run();
            return NOTHING;
        } catch (RuntimeException e) {
            Class<?> kind = e.getClass();
            return kind == IllegalStateException.class ? STATE
                : kind == IllegalArgumentException.class ? ARGUMENT
                : kind == NoSuchElementException.class ? ELEMENT : OTHER;
        }
    }

    static void throwsState(String call, Runnable run) {
        due(call + " (kind of exception)", thrown(run), STATE);
    }

    static void throwsArgument(String call, Runnable run) {
        due(call + " (kind of exception)", thrown(run), ARGUMENT);
    }

    static void throwsElement(String call, Runnable run) {
        due(call + " (kind of exception)", thrown(run), ELEMENT);
    }

    /** The day with a date, by the Java library. */
    static int on(int year, int month, int number) {
        return (int) ChronoUnit.DAYS.between(LocalDate.of(2000, 1, 1), LocalDate.of(year, month, number));
    }

    static void type(RecurrenceBook book, String text) {
        for (int i = 0; i < text.length(); i++) {
            due("type of character " + i + " of " + text, book.type(text.charAt(i)), true);
        }
    }

    /** An event at minute 0, of length 1. */
    static int event(RecurrenceBook book, String text, int day) {
        return event(book, text, day, 0, 1);
    }

    static int event(RecurrenceBook book, String text, int day, int minute, int length) {
        type(book, text);
        return book.event(day, minute, length);
    }

    /** That as many characters are typed as said: so many more go in, and then none. */
    static void typedDue(String what, RecurrenceBook book, int typed) {
        for (int i = typed; i < 60; i++) {
            due(what + ": type of character " + i, book.type('x'), true);
        }
        due(what + ": type of character 60", book.type('x'), false);
    }

    /** All the days of an event. */
    static void daysDue(String what, RecurrenceBook book, int event, int... days) {
        int times = book.times(event);
        due(what + ": times", times, days.length);
        for (int k = 0; k < days.length && k < times; k++) {
            due(what + ": day " + k, book.day(event, k), days[k]);
        }
        throwsElement(what + ": day behind the last one", () -> book.day(event, times));
    }

    /** All the spans of the latest busy, begin and end in turn. */
    static void spansDue(String what, RecurrenceBook book, int count, int... edges) {
        due(what + ": busy", count, edges.length / 2);
        for (int k = 0; k < edges.length / 2 && k < count; k++) {
            due(what + ": begin of span " + k, book.span(k, false), edges[2 * k]);
            due(what + ": end of span " + k, book.span(k, true), edges[2 * k + 1]);
        }
        throwsElement(what + ": span behind the last one", () -> book.span(count, false));
    }

    static void finish(String test) {
        System.out.println(test + ": " + (wrong == 0 ? "all answers are as due" : wrong + " answers are not as due"));
        if (wrong != 0) {
            System.exit(1);
        }
    }
}
