import java.lang.reflect.InvocationTargetException;
import java.lang.reflect.Method;
import java.time.LocalDate;
import java.time.temporal.ChronoUnit;
import java.util.ArrayList;
import java.util.Comparator;
import java.util.List;

/**
 * What the tests of the document's edges share. Each of them is a method without arguments that bears Says, the words of
 * the document that it holds. No object is asked more than the 512 calls that the document promises, if it is not told.
 */
class Edges {
    static final Class<? extends RuntimeException> INDEX = IndexOutOfBoundsException.class;
    static final Class<? extends RuntimeException> ARGUMENT = IllegalArgumentException.class;
    static final Class<? extends RuntimeException> STATE = IllegalStateException.class;
    static final int LAST = 36524;
    static final int LEAST = Integer.MIN_VALUE;
    static final int MOST = Integer.MAX_VALUE;
    static final Steps NOTHING = w -> { };
    private static final int MOST_TOLD = 30;

    private static String place = "";
    private static int checks;
    private static int wrong;
    private static Steps untouchedSteps;
    private static String untouched;

    interface Steps {
        void on(Daywall w);
    }

    interface Call {
        Object on(Daywall w);
    }

    interface CallWith {
        Object on(Daywall w, int x);
    }

    // ---- what is due

    static void due(Object want, Object got) {
        checks++;
        if (!want.equals(got)) {
            fault("answered " + got + ", due is " + want);
        }
    }

    private static void fault(String text) {
        wrong++;
        if (wrong > MOST_TOLD) {
            return;
        }
        int line = 0;
        for (StackTraceElement e : new Throwable().getStackTrace()) {
            if (e.getClassName().endsWith("Test") && !e.getMethodName().startsWith("lambda") && !e.getMethodName().equals("main")) {
                line = e.getLineNumber();
            }
        }
        System.out.println(place + ", line " + line + ": " + text);
    }

    static Daywall made(Steps steps) {
        Daywall w = new Daywall();
        steps.on(w);
        return w;
    }

    /** That the call throws just this, by a throw of the class itself, and leaves what a twin of the wall is without it. */
    static void refused(Class<? extends RuntimeException> kind, Steps steps, Call call) {
        checks++;
        Daywall w = made(steps);
        try {
            fault("answered " + call.on(w) + ", due is " + kind.getSimpleName());
            return;
        } catch (RuntimeException e) {
            if (e.getClass() != kind) {
                fault("threw " + e + ", due is " + kind.getSimpleName());
            }
            if (e.getStackTrace().length == 0 || !e.getStackTrace()[0].getClassName().startsWith("Daywall")) {
                fault("it is not Daywall that threw " + e);
            }
        }
        dueUntouched(steps, w);
    }

    /** That the call answers this, and leaves what a twin of the wall is without it. */
    static void changesNothing(Object want, Steps steps, Call call) {
        Daywall w = made(steps);
        due(want, call.on(w));
        dueUntouched(steps, w);
    }

    private static void dueUntouched(Steps steps, Daywall w) {
        if (untouchedSteps != steps) {
            untouched = aftermath(made(steps));
            untouchedSteps = steps;
        }
        String touched = aftermath(w);
        if (!untouched.equals(touched)) {
            fault("the call changed something: " + firstUnlike(untouched, touched));
        }
    }

    private static String firstUnlike(String one, String other) {
        String[] ones = one.split("\\|");
        String[] others = other.split("\\|");
        int k = 0;
        while (k < ones.length - 1 && k < others.length - 1 && ones[k].equals(others[k])) {
            k++;
        }
        return "answer " + k + " after it is " + others[k] + ", without it " + ones[k];
    }

    static void let(Steps steps, Call call) {
        checks++;
        try {
            call.on(made(steps));
        } catch (RuntimeException e) {
            fault("threw " + e + ", due is an answer");
        }
    }

    /** That the numbers from low to high are let, and those beside them, and the wildest, are refused. */
    static void bounds(Class<? extends RuntimeException> kind, Steps steps, int low, int high, CallWith call) {
        for (int x : new int[] {low, Math.min(low + 1, high), (low + high) / 2, Math.max(high - 1, low), high}) {
            let(steps, w -> call.on(w, x));
        }
        for (int x : new int[] {low - 1, high + 1, low - 1000, high + 1000, -65536, 65536, LEAST, LEAST + 1, MOST - 1, MOST}) {
            if (x < low || x > high) {
                refused(kind, steps, w -> call.on(w, x));
            }
        }
    }

    // ---- arguments that many calls have

    static void days(Steps steps, CallWith call) {
        bounds(INDEX, steps, 0, LAST, call);
    }

    static void persons(Steps steps, CallWith call) {
        bounds(INDEX, steps, 0, 5, call);
    }

    /** On an empty wall, on one of three (a fourth is gone), and on a full one. */
    static void seriesNumbers(CallWith call) {
        refused(INDEX, NOTHING, w -> call.on(w, 0));
        bounds(INDEX, Edges::threeSeries, 0, 2, call);
        bounds(INDEX, Edges::tenSeries, 0, 9, call);
    }

    static void threeSeries(Daywall w) {
        for (int k = 0; k < 4; k++) {
            w.series(0, 1, 0, 0, 0);
            w.strike(k, 1);
        }
        w.drop(3);
    }

    static void tenSeries(Daywall w) {
        for (int k = 0; k < 10; k++) {
            w.series(0, 1, 0, 0, 0);
            w.strike(k, 1);
        }
    }

    static void nineSeries(Daywall w) {
        tenSeries(w);
        w.drop(9);
    }

    /** On an empty wall, on one of three MEETINGS, and on a full one; person 1 is a GUEST of each, asks and has SEEN. */
    static void meetingNumbers(CallWith call) {
        refused(INDEX, NOTHING, w -> call.on(w, 0));
        bounds(INDEX, w -> meetings(w, 3), 0, 2, call);
        bounds(INDEX, w -> meetings(w, 24), 0, 23, call);
    }

    static void meetings(Daywall w, int count) {
        for (int k = 0; k < count; k++) {
            w.meet(0, -1, 4, 600, 60, 6);
            w.answer(k, 1, 1);
            w.ask(k, 1, 5, 600);
        }
    }

    static void taskNumbers(CallWith call) {
        refused(INDEX, NOTHING, w -> call.on(w, 0));
        bounds(INDEX, w -> tasks(w, 3), 0, 2, call);
        bounds(INDEX, w -> tasks(w, 8), 0, 7, call);
    }

    static void tasks(Daywall w, int count) {
        for (int k = 0; k < count; k++) {
            w.task(k + 1);
        }
    }

    static int date(int year, int month, int day) {
        return (int) ChronoUnit.DAYS.between(LocalDate.of(2000, 1, 1), LocalDate.of(year, month, day));
    }

    static LocalDate dateOf(int day) {
        return LocalDate.of(2000, 1, 1).plusDays(day);
    }

    static int time(int day, int minute) {
        return 1440 * day + minute;
    }

    // ---- a wall as it is after some use, and all that can be asked of one

    /** One of each thing that a wall keeps. */
    static void lived(Daywall w) {
        w.holiday(4, 106, 0);
        w.holiday(5, 1, 0);
        w.series(0, 1, 0, 0, 0);
        w.series(1, 2, 21, 0, 3);
        w.series(2, 1, -1, 0, 0);
        w.time(0, 600, 45);
        w.people(0, 5);
        w.skips(0, true);
        w.remind(0, 30);
        w.remind(1, 0);
        w.until(1, 400);
        w.strike(0, 3);
        w.move(0, 4, 6, 1395);
        w.meet(0, 1, 2, 600, 60, 6);
        w.meet(1, 1, 3, 600, 60, 4);
        w.meet(2, -1, 3, 600, 60, 8);
        w.answer(0, 1, 1);
        w.ask(0, 1, 3, 620);
        w.answer(1, 2, 1);
        w.put(1, 3, 610);
        w.answer(2, 3, 2);
        w.hand(2, 3, 4);
        w.meet(3, 0, 5, 0, 1440, 0);
        w.cancel(3);
        w.hours(480, 1080);
        w.travel(15);
        w.tick(1500);
        w.zone(0, 2, 60);
        w.zone(0, 9, -60);
        w.task(3);
        w.task(2);
        w.task(1);
        w.need(0, 1);
        w.need(1, 2);
        w.note(0, 1, 11);
        w.note(1, 2, 12);
        w.merge(false);
        w.note(0, 1, 5);
        w.note(1, 1, 7);
        w.note(1, 3, 30);
        w.knock();
    }

    private static void ask(StringBuilder s, Daywall w, Call call) {
        try {
            s.append(call.on(w));
        } catch (RuntimeException e) {
            s.append(e.getClass().getSimpleName());
        }
        s.append('|');
    }

    /** What the wall answers from here on: calls that look, then calls that change it, of which the answers tell what was hidden. */
    private static String aftermath(Daywall w) {
        StringBuilder s = new StringBuilder();
        ask(s, w, Daywall::digest);
        look(s, w);
        lookAtNotes(s, w);
        for (int p = 0; p < 6; p++) {
            int person = p;
            ask(s, w, x -> x.zone(person, 77, 1));
        }
        for (int k = 0; k < w.count(4); k++) {
            int task = k;
            ask(s, w, x -> x.need(task, (task + 1) % x.count(4)));
        }
        handOn(s, w);
        ring(s, w);
        ask(s, w, x -> x.travel(0));
        ask(s, w, Daywall::knock);
        ask(s, w, x -> x.holiday(5, 0, 0));
        ask(s, w, x -> x.task(1));
        ask(s, w, x -> x.meet(0, 1, 3, 0, 1440, 0));
        ask(s, w, x -> x.series(0, 1, 0, 0, 0));
        ask(s, w, Daywall::digest);
        return s.toString();
    }

    private static void look(StringBuilder s, Daywall w) {
        for (int k = 0; k < w.count(0); k++) {
            int number = k;
            ask(s, w, x -> x.text(number));
            for (int day = 0; day < 6 && k < 4; day++) {
                int d = day;
                ask(s, w, x -> x.on(number, d));
            }
        }
        for (int day = 0; day <= 28; day += 14) {
            int d = day;
            ask(s, w, x -> x.agenda(d, d + 13));
        }
        for (int day = 1; day < 7; day++) {
            int d = day;
            ask(s, w, x -> x.ofDay(d, 7));
            ask(s, w, x -> x.free(1, d));
            ask(s, w, x -> x.busy(2, d));
        }
        for (int p = 0; p < 6; p++) {
            int person = p;
            for (int day : new int[] {0, 5, 20, LAST}) {
                ask(s, w, x -> x.local(person, day, 0));
            }
        }
        ask(s, w, Daywall::rung);
    }

    private static void lookAtNotes(StringBuilder s, Daywall w) {
        ask(s, w, x -> x.notes(0));
        ask(s, w, x -> x.notes(1));
        ask(s, w, x -> x.merge(false));
        ask(s, w, x -> x.notes(0));
        ask(s, w, x -> x.notes(1));
    }

    /** Who has handed on a meeting is told by those that it can be handed on to. */
    private static void handOn(StringBuilder s, Daywall w) {
        for (int k = 0; k < w.count(2) && k < 3; k++) {
            int meeting = k;
            for (int other = 0; other < 6; other++) {
                int to = other;
                ask(s, w, x -> x.hand(meeting, 31 - Integer.numberOfLeadingZeros(x.ofMeeting(meeting, 6)), to));
            }
        }
    }

    /** What has rung is told by what still rings, when it is moved to where the clock is yet to come. */
    private static void ring(StringBuilder s, Daywall w) {
        int day = w.count(6) / 1440 + 1;
        for (int k = 0; k < w.count(0) && k < 3; k++) {
            int number = k;
            for (int d = 0; d < 5; d++) {
                int from = d;
                ask(s, w, x -> x.move(number, from, day, 0));
            }
            ask(s, w, x -> x.remind(number, 0));
        }
        ask(s, w, x -> x.tick(2880));
        ask(s, w, Daywall::rung);
    }

    // ---- the run

    static List<Method> testsOf(Class<?> tests) {
        List<Method> found = new ArrayList<>();
        for (Method m : tests.getDeclaredMethods()) {
            if (m.isAnnotationPresent(Says.class)) {
                found.add(m);
            }
        }
        found.sort(Comparator.comparing(Method::getName));
        return found;
    }

    static void run(Class<?> tests) {
        List<Method> all = testsOf(tests);
        for (Method m : all) {
            Says says = m.getAnnotation(Says.class);
            place = says.at() + ", \"" + String.join("\", \"", says.value()) + "\", " + m.getName();
            int before = checks;
            try {
                m.invoke(null);
            } catch (InvocationTargetException e) {
                fault("threw " + e.getCause());
            } catch (IllegalAccessException e) {
                fault("it cannot be called");
            }
            if (checks == before) {
                fault("it checks nothing");
            }
        }
        System.out.println(tests.getName() + ": " + all.size() + " tests, " + checks + " checks, " + wrong + " wrong");
        if (wrong != 0) {
            System.exit(1);
        }
    }
}
