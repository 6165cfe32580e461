import java.lang.reflect.Constructor;
import java.lang.reflect.Field;
import java.lang.reflect.Method;
import java.lang.reflect.Modifier;
import java.time.LocalDate;
import java.util.Set;
import java.util.TreeSet;

/** For each promise of the document, by its number: ordinary inputs, the edges that it names, and wrong inputs. */
public final class PromiseTest {
    private static final Class<? extends RuntimeException> INDEX = IndexOutOfBoundsException.class;
    private static final Class<? extends RuntimeException> ARGUMENT = IllegalArgumentException.class;
    private static final Class<? extends RuntimeException> STATE = IllegalStateException.class;
    private static final int LAST = 36524;
    private static final int LEAST = Integer.MIN_VALUE;
    private static final int MOST = Integer.MAX_VALUE;

    private static int promise;
    private static int checks;
    private static int wrong;

    private interface Call {
        Object make();
    }

    private static void due(Object want, Object got) {
        checks++;
        if (!want.equals(got)) {
            fault("answered " + got + ", due is " + want);
        }
    }

    private static void fault(String text) {
        wrong++;
        StackTraceElement[] at = new Throwable().getStackTrace();
        int line = 0;
        for (StackTraceElement e : at) {
            if (e.getMethodName().startsWith("promise")) {
                line = e.getLineNumber();
            }
        }
        System.out.println("promise " + promise + ", line " + line + ": " + text);
    }

    /** That the call throws just this, and changes nothing that can be asked. */
    private static void refused(Class<? extends RuntimeException> kind, Daywall wall, Call call) {
        checks++;
        String before = all(wall);
        try {
            Object got = call.make();
            fault("answered " + got + ", due is " + kind.getSimpleName());
            return;
        } catch (RuntimeException e) {
            if (e.getClass() != kind) {
                fault("threw " + e + ", due is " + kind.getSimpleName());
            }
            if (e.getStackTrace().length == 0 || !e.getStackTrace()[0].getClassName().startsWith("Daywall")) {
                fault("it is not Daywall that threw " + e);
            }
        }
        if (!before.equals(all(wall))) {
            fault("a refused call changed " + before + " to " + all(wall));
        }
    }

    /** What of a wall can be asked without an end: two are the same if these are. */
    private static String all(Daywall w) {
        StringBuilder s = new StringBuilder();
        s.append(w.digest()).append('|').append(w.notes(0)).append('|').append(w.notes(1)).append('|').append(w.rung());
        for (int k = 0; k < w.count(0); k++) {
            s.append('|').append(w.text(k));
            for (int day = 0; day < 60; day++) {
                s.append(w.on(k, day)).append(' ');
            }
        }
        for (int day = 0; day < 28; day += 14) {
            s.append('|').append(w.agenda(day, day + 13)).append('|').append(w.free(63, day)).append(w.free(1, day + 4));
        }
        for (int person = 0; person < 6; person++) {
            s.append('|').append(w.local(person, 5, 0)).append(' ').append(w.local(person, LAST, 0));
        }
        int travel = w.travel(0);
        w.travel(travel);
        return s.append('|').append(travel).toString();
    }

    // ---- days

    static void promise1() {
        Daywall w = new Daywall();
        for (int what = 0; what <= 9; what++) {
            due(0, w.count(what));
        }
        due("", w.agenda(0, 13));
        due("", w.rung());
        due("", w.notes(0));
        due("", w.notes(1));
        due("540-1020", w.free(63, 0));
        due(0, w.travel(0));
        due(0, w.local(5, 0, 0));
        refused(INDEX, w, () -> w.text(0));
        refused(INDEX, w, () -> w.ofMeeting(0, 0));
        refused(INDEX, w, () -> w.done(0, 0));
    }

    static void promise2() {
        Daywall w = new Daywall();
        due(0, w.day(2000, 1, 1));
        due(LAST, w.day(2099, 12, 31));
        due(59, w.day(2000, 2, 29));
        due(60, w.day(2000, 3, 1));
        due(366, w.day(2001, 1, 1));
        due(8825, w.day(2024, 2, 29));
        due(-9, w.day(2023, 2, 29));
        due(-9, w.day(2023, 4, 31));
        due(-9, w.day(2023, 0, 1));
        due(-9, w.day(2023, 13, 1));
        due(-9, w.day(2023, 1, 0));
        due(-9, w.day(2023, 1, 32));
        due(-9, w.day(2023, MOST, MOST));
        due(-9, w.day(2023, LEAST, LEAST));
        refused(ARGUMENT, w, () -> w.day(1999, 12, 31));
        refused(ARGUMENT, w, () -> w.day(2100, 1, 1));
        refused(ARGUMENT, w, () -> w.day(LEAST, 1, 1));
        // Each day in its turn, counted on by itself.
        int day = 0;
        for (int year = 2000; year <= 2099; year++) {
            for (int month = 1; month <= 12; month++) {
                for (int k = 1; w.day(year, month, k) != -9; k++) {
                    due(day++, w.day(year, month, k));
                }
            }
        }
        due(LAST + 1, day);
    }

    static void promise3() {
        Daywall w = new Daywall();
        int[] first = {2000, 1, 1, 5, 1, 31, 1, 0};
        int[] last = {2099, 12, 31, 3, 365, 31, 0, 0};
        int[] leap = {2024, 2, 29, 3, 60, 29, 1, 0};
        for (int what = 0; what <= 7; what++) {
            due(first[what], w.ofDay(0, what));
            due(last[what], w.ofDay(LAST, what));
            due(leap[what], w.ofDay(8825, what));
        }
        due(366, w.ofDay(365, 4));
        due(1, w.ofDay(366, 4));
        due(28, w.ofDay(w.day(2001, 2, 1), 5));
        due(30, w.ofDay(w.day(2001, 11, 1), 5));
        w.holiday(4, 101, 0);
        due(1, w.ofDay(0, 7));
        due(1, w.ofDay(366, 7));
        due(0, w.ofDay(1, 7));
        refused(INDEX, w, () -> w.ofDay(-1, 0));
        refused(INDEX, w, () -> w.ofDay(LAST + 1, 99));
        refused(ARGUMENT, w, () -> w.ofDay(0, 8));
        refused(ARGUMENT, w, () -> w.ofDay(0, -1));
    }

    static void promise4() {
        Daywall w = new Daywall();
        due("2000-01-01", w.dayText(0));
        due("2024-02-29", w.dayText(8825));
        due("2009-10-09", w.dayText(w.day(2009, 10, 9)));
        due("2099-12-31", w.dayText(LAST));
        for (int day = 0; day <= LAST; day++) {
            LocalDate date = LocalDate.of(2000, 1, 1).plusDays(day);
            due(date.toString(), w.dayText(day));
            due(date.getDayOfWeek().getValue() - 1, w.ofDay(day, 3));
            due(date.getDayOfYear(), w.ofDay(day, 4));
            due(date.lengthOfMonth(), w.ofDay(day, 5));
        }
        refused(INDEX, w, () -> w.dayText(-1));
        refused(INDEX, w, () -> w.dayText(LAST + 1));
        refused(INDEX, w, () -> w.dayText(MOST));
    }

    static void promise5() {
        Daywall w = new Daywall();
        due(59, w.months(30, 1));
        due(30, w.months(30, 0));
        due(w.day(2000, 4, 30), w.months(30, 3));
        due(w.day(2001, 2, 28), w.months(59, 12));
        due(w.day(2004, 2, 29), w.months(59, 48));
        due(w.day(2000, 2, 29), w.months(w.day(2000, 3, 31), -1));
        due(w.day(2099, 12, 1), w.months(0, 1199));
        due(0, w.months(w.day(2099, 12, 1), -1199));
        due(-1, w.months(0, 1200));
        due(-1, w.months(LAST, 1));
        due(-1, w.months(0, -1));
        due(-1, w.months(LAST, -1200));
        refused(INDEX, w, () -> w.months(-1, 2000));
        refused(INDEX, w, () -> w.months(LAST + 1, 0));
        refused(ARGUMENT, w, () -> w.months(0, 1201));
        refused(ARGUMENT, w, () -> w.months(0, -1201));
        refused(ARGUMENT, w, () -> w.months(0, LEAST));
    }

    static void promise6() {
        Daywall w = new Daywall();
        int from = w.day(2000, 1, 31);
        int to = w.day(2001, 3, 1);
        due(1, w.between(from, to, 0));
        due(1, w.between(from, to, 1));
        due(1, w.between(from, to, 2));
        due(0, w.between(from, w.day(2000, 2, 29), 1));
        due(29, w.between(from, w.day(2000, 2, 29), 2));
        due(9, w.between(w.day(2000, 5, 31), w.day(2001, 3, 30), 1));
        due(30, w.between(w.day(2000, 5, 31), w.day(2001, 3, 30), 2));
        due(2, w.between(w.day(2020, 2, 29), w.day(2022, 3, 1), 0));
        due(1, w.between(w.day(2020, 2, 29), w.day(2022, 3, 1), 2));
        due(0, w.between(7, 7, 0));
        due(0, w.between(7, 7, 1));
        due(0, w.between(7, 7, 2));
        due(99, w.between(0, LAST, 0));
        due(11, w.between(0, LAST, 1));
        due(30, w.between(0, LAST, 2));
        refused(INDEX, w, () -> w.between(-1, 0, 9));
        refused(INDEX, w, () -> w.between(0, LAST + 1, 0));
        refused(ARGUMENT, w, () -> w.between(5, 4, 0));
        refused(ARGUMENT, w, () -> w.between(4, 5, 3));
        refused(ARGUMENT, w, () -> w.between(4, 5, -1));
    }

    static void promise7() {
        Daywall w = new Daywall();
        due(w.day(2000, 4, 23), w.easter(2000));
        due(w.day(2008, 3, 23), w.easter(2008));
        due(w.day(2024, 3, 31), w.easter(2024));
        due(w.day(2025, 4, 20), w.easter(2025));
        due(w.day(2038, 4, 25), w.easter(2038));
        due(w.day(2049, 4, 18), w.easter(2049));
        due(w.day(2076, 4, 19), w.easter(2076));
        due(w.day(2099, 4, 12), w.easter(2099));
        for (int year = 2000; year <= 2099; year++) {
            due(6, w.ofDay(w.easter(year), 3));
            due(NaiveWall.easterByAnotherRule(year), w.easter(year));
        }
        refused(ARGUMENT, w, () -> w.easter(1999));
        refused(ARGUMENT, w, () -> w.easter(2100));
        refused(ARGUMENT, w, () -> w.easter(LEAST));
    }

    static void promise8() {
        Daywall w = new Daywall();
        due(0, w.holiday(5, 1, 0));
        due(1, w.holiday(4, 1225, 0));
        due(2, w.holiday(4, 229, 1));
        due(3, w.holiday(5, -80, 0));
        refused(ARGUMENT, w, () -> w.holiday(3, 1, 1));
        refused(ARGUMENT, w, () -> w.holiday(6, 1, 0));
        refused(ARGUMENT, w, () -> w.holiday(4, 230, 0));
        refused(ARGUMENT, w, () -> w.holiday(4, 1301, 0));
        refused(ARGUMENT, w, () -> w.holiday(4, 100, 0));
        refused(ARGUMENT, w, () -> w.holiday(4, 1, 0));
        refused(ARGUMENT, w, () -> w.holiday(4, 101, 2));
        refused(ARGUMENT, w, () -> w.holiday(5, -81, 0));
        refused(ARGUMENT, w, () -> w.holiday(5, 241, 0));
        refused(ARGUMENT, w, () -> w.holiday(5, 0, 1));
        due(4, w.holiday(5, 240, 0));
        due(5, w.holiday(4, 1225, 1));
        refused(ARGUMENT, w, () -> w.holiday(4, 0, 0));
        refused(STATE, w, () -> w.holiday(4, 101, 0));
        due(6, w.count(1));
        due(1, w.ofDay(w.easter(2050) + 1, 7));
        due(1, w.ofDay(w.easter(2050) - 80, 7));
        due(1, w.ofDay(w.easter(2050) + 240, 7));
        due(1, w.ofDay(w.day(2099, 12, 25), 7));
        due(1, w.ofDay(w.day(2001, 2, 28), 7));
        due(0, w.ofDay(w.day(2004, 2, 28), 7));
        due(1, w.ofDay(w.day(2004, 2, 29), 7));
        due(0, w.ofDay(w.easter(2050), 7));
    }

    // ---- series

    static void promise9() {
        Daywall w = new Daywall();
        due(0, w.series(0, 1, 0, 0, 0));
        due(1, w.series(1, 60, 127, 0, LAST));
        due(2, w.series(2, 1, -31, 1, 0));
        due(3, w.series(3, 1, 1, -8, 0));
        due(4, w.series(4, 1, 1231, 0, 0));
        due(5, w.series(5, 1, 240, 0, 0));
        due("days 1 0 0 0 36524 540 60 1 0", w.text(0));
        due("weeks 60 127 0 36524 36524 540 60 1 0", w.text(1));
        due("month 1 -31 1 0 36524 540 60 1 0", w.text(2));
        due("place 1 1 -8 0 36524 540 60 1 0", w.text(3));
        due("year 1 1231 0 0 36524 540 60 1 0", w.text(4));
        due("easter 1 240 0 0 36524 540 60 1 0", w.text(5));
        int[][] bad = {{4, 1, 200, 0, 0}, {4, 1, 1200, 0, 0},
            {6, 1, 0, 0, 0}, {-1, 1, 0, 0, 0}, {0, 0, 0, 0, 0}, {0, 61, 0, 0, 0}, {0, 1, 1, 0, 0}, {0, 1, 0, 1, 0},
            {1, 1, 0, 0, 0}, {1, 1, 128, 0, 0}, {1, 1, 1, 1, 0}, {2, 1, 0, 0, 0}, {2, 1, 32, 0, 0}, {2, 1, -32, 0, 0},
            {2, 1, 1, 2, 0}, {2, 1, 1, -1, 0}, {3, 1, 0, 1, 0}, {3, 1, 128, 1, 0}, {3, 1, 1, 0, 0}, {3, 1, 1, 9, 0},
            {3, 1, 1, -9, 0}, {4, 1, 431, 0, 0}, {4, 1, 230, 0, 0}, {4, 1, 99, 0, 0}, {4, 1, 1232, 0, 0}, {4, 1, 101, 2, 0},
            {4, 1, -101, 0, 0}, {5, 1, -81, 0, 0}, {5, 1, 241, 0, 0}, {5, 1, 0, 1, 0}, {0, 1, 0, 0, -1}, {0, 1, 0, 0, LAST + 1},
            {LEAST, LEAST, LEAST, LEAST, LEAST}, {MOST, MOST, MOST, MOST, MOST}};
        for (int[] b : bad) {
            refused(ARGUMENT, w, () -> w.series(b[0], b[1], b[2], b[3], b[4]));
        }
        for (int k = 6; k < 10; k++) {
            due(k, w.series(0, 60, 0, 0, k));
        }
        refused(ARGUMENT, w, () -> w.series(0, 61, 0, 0, 0));
        refused(STATE, w, () -> w.series(0, 1, 0, 0, 0));
    }

    /** The words of the rules themselves. */
    static void promise9rules() {
        Daywall w = new Daywall();
        w.series(0, 3, 0, 0, 2);
        due(1, w.on(0, 2) + w.on(0, 3) + w.on(0, 1));
        due(5, w.kth(0, 1));
        // Every second week, begun on a Sunday: Monday of the next week is not in it, that of the week after is.
        w.series(1, 2, 1 + 64, 0, 1);
        due(1, w.kth(1, 0));
        due(9, w.kth(1, 1));
        due(15, w.kth(1, 2));
        w.series(2, 1, 31, 0, 0);
        due(90, w.kth(2, 1));
        w.series(2, 1, -30, 1, 0);
        due(1, w.kth(3, 0));
        due(31, w.kth(3, 1));
        w.series(2, 12, 30, 0, 31);
        due(-1, w.kth(4, 0));
        w.series(3, 1, 1 << 5, 5, 0);
        due(28, w.kth(5, 0));
        due(w.day(2000, 4, 29), w.kth(5, 1));
        w.series(3, 1, 31, -1, 0);
        due(30, w.kth(6, 0));
        due(59, w.kth(6, 1));
        w.series(4, 1, 229, 0, 0);
        due(w.day(2004, 2, 29), w.kth(7, 1));
        w.series(4, 3, 229, 1, 366);
        due(w.day(2001, 2, 28), w.kth(8, 0));
        due(w.day(2004, 2, 29), w.kth(8, 1));
        w.series(5, 2, 49, 0, 200);
        due(w.easter(2002) + 49, w.kth(9, 0));
        due(w.easter(2004) + 49, w.kth(9, 1));
    }

    static void promise10() {
        Daywall w = new Daywall();
        w.series(0, 1, 0, 0, 0);
        due(1440, w.time(0, 0, 1440));
        due(1440, w.time(0, 1439, 1));
        due(630, w.time(0, 600, 30));
        due("days 1 0 0 0 36524 600 30 1 0", w.text(0));
        due("600s0", w.agenda(0, 0));
        refused(INDEX, w, () -> w.time(1, -1, 0));
        refused(INDEX, w, () -> w.time(-1, 0, 1));
        refused(ARGUMENT, w, () -> w.time(0, -1, 1));
        refused(ARGUMENT, w, () -> w.time(0, 1440, 1));
        refused(ARGUMENT, w, () -> w.time(0, 0, 0));
        refused(ARGUMENT, w, () -> w.time(0, 0, 1441));
        refused(ARGUMENT, w, () -> w.time(0, 1000, 441));
        refused(ARGUMENT, w, () -> w.time(0, 1, MOST));
        w.strike(0, 3);
        w.move(0, 4, 9, 1400);
        due(40, w.time(0, 0, 40));
        refused(ARGUMENT, w, () -> w.time(0, 1430, 41));
        refused(STATE, w, () -> w.time(0, 0, 41));
        w.mend(0, 4);
        due(1440, w.time(0, 0, 1440));
        w.mend(0, 3);
        w.move(0, 3, 0, 0);
        w.time(0, 0, 2);
        w.mend(0, 3);
        w.move(0, 3, 0, 1438);
        refused(STATE, w, () -> w.time(0, 0, 3));
    }

    static void promise11() {
        Daywall w = new Daywall();
        w.series(0, 1, 0, 0, 0);
        due(1, w.people(0, 63));
        due(63, w.people(0, 32));
        due(60, w.busy(5, 0));
        due(0, w.busy(0, 0));
        due("days 1 0 0 0 36524 540 60 32 0", w.text(0));
        refused(INDEX, w, () -> w.people(1, 0));
        refused(ARGUMENT, w, () -> w.people(0, 0));
        refused(ARGUMENT, w, () -> w.people(0, 64));
        refused(ARGUMENT, w, () -> w.people(0, -1));
    }

    static void promise12() {
        Daywall w = new Daywall();
        w.series(0, 1, 0, 0, 10);
        for (int k = 0; k < 12; k++) {
            w.strike(0, 10 + k);
        }
        due(0, w.until(0, 21));
        due(2, w.until(0, 19));
        due(10, w.count(5));
        due(2, w.on(0, 19));
        due(0, w.on(0, 20));
        due(0, w.until(0, LAST));
        due(1, w.on(0, 20));
        due(9, w.until(0, 10));
        due(10, w.next(0, LAST, true));
        refused(INDEX, w, () -> w.until(1, 9));
        refused(ARGUMENT, w, () -> w.until(0, 9));
        refused(ARGUMENT, w, () -> w.until(0, LAST + 1));
        refused(ARGUMENT, w, () -> w.until(0, LEAST));
    }

    static void promise13() {
        Daywall w = new Daywall();
        w.series(1, 1, 31, 0, 0);
        w.strike(0, 6);
        w.strike(0, 9);
        due(6, w.often(0, 5));
        due(1, w.count(5));
        due("weeks 1 31 0 0 6 540 60 1 0", w.text(0));
        due(2, w.often(0, 1));
        due(0, w.count(5));
        due(559, w.often(0, 400));
        due(559, w.next(0, LAST, true));
        w.series(5, 1, 0, 0, 0);
        due(w.easter(2099), w.often(1, 100));
        w.until(1, w.easter(2000));
        due(w.easter(2001), w.often(1, 2));
        refused(STATE, w, () -> w.often(1, 101));
        refused(INDEX, w, () -> w.often(2, 0));
        refused(ARGUMENT, w, () -> w.often(1, 0));
        refused(ARGUMENT, w, () -> w.often(1, 401));
        w.series(3, 1, 1, 6, 0);
        refused(STATE, w, () -> w.often(2, 1));
    }

    static void promise14() {
        Daywall w = new Daywall();
        w.series(0, 1, 0, 0, 0);
        w.holiday(4, 103, 0);
        due(false, w.skips(0, true));
        due(true, w.skips(0, true));
        due("days 1 0 0 0 36524 540 60 1 1", w.text(0));
        due("1980s0 4860s0", w.agenda(1, 3));
        due(true, w.skips(0, false));
        due("1980s0 3420s0 4860s0", w.agenda(1, 3));
        refused(INDEX, w, () -> w.skips(1, true));
        refused(INDEX, w, () -> w.skips(-1, true));
    }

    static void promise15() {
        Daywall w = new Daywall();
        w.series(0, 2, 0, 0, 2);
        due(1, w.strike(0, 4));
        due(2, w.on(0, 4));
        due("3420s0 9180s0", w.agenda(2, 7));
        refused(STATE, w, () -> w.strike(0, 4));
        refused(STATE, w, () -> w.strike(0, 5));
        refused(STATE, w, () -> w.strike(0, 0));
        refused(STATE, w, () -> w.strike(0, -1));
        refused(STATE, w, () -> w.strike(0, LAST + 2));
        refused(STATE, w, () -> w.strike(0, LEAST));
        refused(INDEX, w, () -> w.strike(1, 4));
        w.until(0, 100);
        refused(STATE, w, () -> w.strike(0, 102));
        for (int k = 2; k <= 12; k++) {
            due(k, w.strike(0, 2 + 2 * k));
        }
        refused(STATE, w, () -> w.strike(0, 60));
    }

    static void promise16() {
        Daywall w = new Daywall();
        w.series(0, 7, 0, 0, 0);
        due(1, w.move(0, 7, 7, 540));
        due(2, w.move(0, 0, LAST, 1380));
        due(3, w.move(0, 14, 0, 0));
        due(11, w.on(0, 7));
        due(11, w.on(0, 0));
        due("0s0 10620s0", w.agenda(0, 13));
        due("52595940s0", w.agenda(LAST, LAST));
        refused(INDEX, w, () -> w.move(1, 0, -1, 0));
        refused(ARGUMENT, w, () -> w.move(0, 21, -1, 0));
        refused(ARGUMENT, w, () -> w.move(0, 21, LAST + 1, 0));
        refused(ARGUMENT, w, () -> w.move(0, 21, 0, -1));
        refused(ARGUMENT, w, () -> w.move(0, 21, 0, 1381));
        refused(ARGUMENT, w, () -> w.move(0, 22, 0, 1381));
        refused(STATE, w, () -> w.move(0, 22, 0, 0));
        refused(STATE, w, () -> w.move(0, 7, 0, 0));
        refused(STATE, w, () -> w.move(0, MOST, 0, 0));
        for (int k = 4; k <= 12; k++) {
            due(k, w.move(0, 7 * k, 100, 0));
        }
        due(8 * 9, w.on(0, 100));
        refused(STATE, w, () -> w.move(0, 98, 0, 0));
        // A holiday does not hold back what was moved, away from it or to it.
        Daywall v = new Daywall();
        v.series(0, 7, 0, 0, 0);
        v.skips(0, true);
        v.holiday(4, 101, 0);
        v.holiday(4, 103, 0);
        v.move(0, 0, 2, 30);
        due("2910s0", v.agenda(0, 2));
        due(3, v.on(0, 0));
        due(8, v.on(0, 2));
    }

    static void promise17() {
        Daywall w = new Daywall();
        w.series(0, 1, 0, 0, 0);
        w.strike(0, 1);
        w.move(0, 2, 5, 0);
        w.strike(0, 3);
        due(2, w.mend(0, 2));
        due(1, w.on(0, 2));
        due(1, w.on(0, 5));
        due(1, w.mend(0, 1));
        due(2, w.on(0, 3));
        refused(STATE, w, () -> w.mend(0, 2));
        refused(STATE, w, () -> w.mend(0, 5));
        refused(STATE, w, () -> w.mend(0, -1));
        refused(STATE, w, () -> w.mend(0, LEAST));
        refused(INDEX, w, () -> w.mend(1, 3));
        due(0, w.mend(0, 3));
    }

    static void promise18() {
        Daywall w = new Daywall();
        w.series(1, 1, 31, 0, 0);
        w.time(0, 600, 20);
        w.people(0, 7);
        w.skips(0, true);
        w.remind(0, 10);
        w.until(0, 40);
        w.strike(0, 6);
        w.strike(0, 9);
        w.move(0, 4, 12, 0);
        due(1, w.cut(0, 7));
        due("weeks 1 31 0 0 6 600 20 7 1", w.text(0));
        due("weeks 1 31 0 9 40 600 20 7 1", w.text(1));
        due(10, w.remind(1, 10));
        due(2, w.on(0, 6));
        due(3, w.on(0, 4));
        due(8, w.on(0, 12));
        due(2, w.on(1, 9));
        due(0, w.on(1, 6));
        refused(STATE, w, () -> w.cut(0, 0));
        refused(STATE, w, () -> w.cut(0, 2));
        refused(STATE, w, () -> w.cut(0, 7));
        refused(STATE, w, () -> w.cut(0, LAST + 1));
        refused(STATE, w, () -> w.cut(0, LEAST));
        refused(STATE, w, () -> w.cut(0, MOST));
        refused(INDEX, w, () -> w.cut(2, 5));
        // The wall's last day may be cut off, and an exception at the day itself is of the new one.
        Daywall y = new Daywall();
        y.series(0, 1, 0, 0, 0);
        y.strike(0, LAST);
        due(1, y.cut(0, LAST));
        due("days 1 0 0 36524 36524 540 60 1 0", y.text(1));
        due(2, y.on(1, LAST));
        due(0, y.on(0, LAST));
        // What has rung goes with its day: it does not ring again, wherever it is.
        Daywall v = new Daywall();
        v.series(0, 1, 0, 0, 0);
        v.remind(0, 0);
        due(4, v.tick(4 * 1440));
        due(1, v.cut(0, 2));
        v.move(0, 1, 6, 0);
        v.move(1, 3, 6, 0);
        v.move(1, 4, 6, 30);
        due("540s0 1980s0 3420s0 4860s0", v.rung());
        due(3, v.tick(3 * 1440));
        due("540s0 1980s0 3420s0 4860s0 7740s1 8670s1 9180s1", v.rung());
        for (int k = 2; k < 10; k++) {
            due(k, v.cut(k - 1, 10 * k));
        }
        refused(STATE, v, () -> v.cut(9, 1000));
    }

    /** A wall on which a series of every day has rung on all its DAYS, 0 to 195. */
    private static Daywall rungWall() {
        Daywall w = new Daywall();
        w.series(0, 1, 0, 0, 0);
        w.remind(0, 0);
        for (int n = 0; n < 14; n++) {
            due(14, w.tick(20160));
        }
        w.until(0, 195);
        return w;
    }

    /** How many of these DAYS ring, if they are moved to where the clock is yet to come: twelve at a time. */
    private static int ringsOf(Daywall w, int series, int from, int to) {
        int rings = 0;
        for (int first = from; first <= to; first += 12) {
            int last = Math.min(to, first + 11);
            int now = w.count(6);
            for (int day = first; day <= last; day++) {
                w.move(series, day, (now + 60) / 1440, (now + 60) % 1440 > 1380 ? 1380 : (now + 60) % 1440);
            }
            rings += w.tick(61);
            for (int day = first; day <= last; day++) {
                w.mend(series, day);
            }
        }
        return rings;
    }

    /** What has rung is cut and joined day by day: no day rings twice, and each that has not yet may. */
    static void promise18rung() {
        for (int cut : new int[] {1, 63, 64, 65, 100, 127, 128, 129, 190, 191, 192, 195}) {
            Daywall w = rungWall();
            due(1, w.cut(0, cut));
            due(0, ringsOf(w, 0, 0, cut - 1));
            due(0, ringsOf(w, 1, cut, 195));
            due(0, w.join(0, 1));
            due(0, ringsOf(w, 0, 0, 195));
            Daywall v = rungWall();
            due(1, v.cut(0, cut));
            // The first one goes on again: what has rung from the cut on is the other one's.
            v.until(0, 195);
            due(0, ringsOf(v, 0, 0, cut - 1));
            due(196 - cut, ringsOf(v, 0, cut, 195));
            due(0, ringsOf(v, 1, cut, 195));
        }
    }

    static void promise19() {
        Daywall w = new Daywall();
        w.series(1, 1, 31, 0, 0);
        w.until(0, 30);
        w.strike(0, 2);
        w.strike(0, 12);
        w.cut(0, 10);
        w.series(0, 1, 0, 0, 0);
        refused(STATE, w, () -> w.join(1, 0));
        refused(STATE, w, () -> w.join(0, 0));
        refused(STATE, w, () -> w.join(0, 2));
        refused(INDEX, w, () -> w.join(0, 3));
        refused(INDEX, w, () -> w.join(-1, 0));
        int[][] unlike = {{541, 60, 1, 0, -1}, {540, 59, 1, 0, -1}, {540, 60, 2, 0, -1}, {540, 60, 1, 1, -1}, {540, 60, 1, 0, 0}};
        for (int[] u : unlike) {
            w.time(1, u[0], u[1]);
            w.people(1, u[2]);
            w.skips(1, u[3] == 1);
            w.remind(1, u[4]);
            refused(STATE, w, () -> w.join(0, 1));
        }
        w.time(1, 540, 60);
        w.remind(1, -1);
        due(0, w.join(0, 1));
        due(2, w.count(0));
        due("weeks 1 31 0 0 30 540 60 1 0", w.text(0));
        due("days 1 0 0 0 36524 540 60 1 0", w.text(1));
        due(2, w.on(0, 2));
        due(2, w.on(0, 12));
        due(2, w.count(5));
        // The first may stand behind the second: it moves up.
        Daywall v = new Daywall();
        v.series(0, 2, 0, 0, 10);
        v.series(0, 2, 0, 0, 0);
        v.until(1, 9);
        due(0, v.join(1, 0));
        due("days 2 0 0 0 36524 540 60 1 0", v.text(0));
        // Rules that are the same but for START and EVERY, A or B do not join.
        v.series(0, 1, 0, 0, 10);
        v.until(0, 8);
        refused(STATE, v, () -> v.join(0, 1));
        v.series(0, 2, 0, 0, 12);
        refused(STATE, v, () -> v.join(0, 2));
        v.until(0, 10);
        due(0, v.join(0, 2));
        // The second begins on the next day of the first one's rule, but its own rule is another: EVERY, A, FORM, B.
        Daywall t = new Daywall();
        t.series(1, 1, 1, 0, 2);
        t.until(0, 2);
        t.series(1, 2, 1, 0, 9);
        t.series(1, 1, 3, 0, 9);
        refused(STATE, t, () -> t.join(0, 1));
        refused(STATE, t, () -> t.join(0, 2));
        Daywall z = new Daywall();
        z.series(2, 1, 1, 0, 0);
        z.series(3, 1, 127, 1, 31);
        z.until(0, 0);
        refused(STATE, z, () -> z.join(0, 1));
        z.series(2, 1, 1, 1, 31);
        refused(STATE, z, () -> z.join(0, 2));
        z.series(2, 1, 1, 0, 31);
        due(0, z.join(0, 3));
        Daywall u = new Daywall();
        u.series(0, 1, 0, 0, 0);
        u.cut(0, 20);
        for (int k = 0; k < 7; k++) {
            u.strike(0, k);
            u.strike(1, 20 + k);
        }
        refused(STATE, u, () -> u.join(0, 1));
        u.mend(0, 0);
        u.mend(1, 20);
        due(0, u.join(0, 1));
        due(12, u.count(5));
        // At the end of the wall there is no next day of the rule.
        Daywall x = new Daywall();
        x.series(0, 1, 0, 0, 0);
        x.series(0, 1, 0, 0, 0);
        refused(STATE, x, () -> x.join(0, 1));
        // What has rung of both stays.
        Daywall y = new Daywall();
        y.series(0, 1, 0, 0, 0);
        y.remind(0, 0);
        y.cut(0, 2);
        due(4, y.tick(4 * 1440));
        y.join(0, 1);
        y.move(0, 1, 5, 0);
        y.move(0, 3, 5, 0);
        due(1, y.tick(1440));
        due(1, y.tick(1439));
    }

    static void promise20() {
        Daywall w = new Daywall();
        w.series(0, 1, 0, 0, 0);
        w.series(0, 2, 0, 0, 0);
        w.series(0, 3, 0, 0, 0);
        w.strike(1, 0);
        due(2, w.drop(1));
        due("days 1 0 0 0 36524 540 60 1 0", w.text(0));
        due("days 3 0 0 0 36524 540 60 1 0", w.text(1));
        due(0, w.count(5));
        refused(INDEX, w, () -> w.drop(2));
        refused(INDEX, w, () -> w.drop(-1));
        due(1, w.drop(0));
        due(0, w.drop(0));
        refused(INDEX, w, () -> w.drop(0));
    }

    static void promise21() {
        Daywall w = new Daywall();
        w.series(3, 2, 16, -2, 7);
        w.time(0, 60, 90);
        w.people(0, 9);
        w.skips(0, true);
        w.until(0, 500);
        w.remind(0, 5);
        w.strike(0, w.kth(0, 0));
        due(1, w.copy(0));
        due("place 2 16 -2 7 500 60 90 9 1", w.text(1));
        due(w.text(0), w.text(1));
        due(1, w.on(1, w.kth(0, 0)));
        due(1, w.count(5));
        due(-1, w.remind(1, 0));
        due(-1, w.same(0, 1));
        w.people(1, 1);
        due(9, w.people(0, 9));
        refused(INDEX, w, () -> w.copy(2));
        for (int k = 2; k < 10; k++) {
            due(k, w.copy(0));
        }
        refused(STATE, w, () -> w.copy(0));
        // Of what has rung a copy knows nothing.
        Daywall v = new Daywall();
        v.series(0, 1, 0, 0, 0);
        v.remind(0, 0);
        v.tick(1440);
        v.copy(0);
        v.remind(1, 0);
        v.move(0, 0, 1, 1);
        v.move(1, 0, 1, 1);
        due(1, v.tick(10));
        due("540s0 1441s1", v.rung());
    }

    static void promise22() {
        Daywall w = new Daywall();
        w.series(0, 1, 0, 0, 0);
        due(-1, w.remind(0, 1440));
        due(1440, w.remind(0, 0));
        due(0, w.remind(0, -1));
        due(-1, w.remind(0, -1));
        refused(INDEX, w, () -> w.remind(1, -2));
        refused(ARGUMENT, w, () -> w.remind(0, -2));
        refused(ARGUMENT, w, () -> w.remind(0, 1441));
    }

    // ---- what a series is asked

    static void promise23() {
        Daywall w = new Daywall();
        w.series(1, 1, 31, 0, 0);
        w.holiday(4, 106, 0);
        due(0, w.on(0, 1));
        due(1, w.on(0, 2));
        due(1, w.on(0, 5));
        w.skips(0, true);
        due(4, w.on(0, 5));
        w.strike(0, 3);
        w.move(0, 4, 5, 0);
        w.move(0, 6, 5, 0);
        w.move(0, 9, 1, 0);
        due(2, w.on(0, 3));
        due(3, w.on(0, 4));
        due(20, w.on(0, 5));
        due(8, w.on(0, 1));
        w.strike(0, 5);
        due(18, w.on(0, 5));
        w.until(0, 8);
        due(0, w.on(0, 9));
        due(0, w.on(0, 1));
        refused(INDEX, w, () -> w.on(0, -1));
        refused(INDEX, w, () -> w.on(0, LAST + 1));
        refused(INDEX, w, () -> w.on(1, 0));
        refused(INDEX, w, () -> w.on(-1, 0));
    }

    static void promise24() {
        Daywall w = new Daywall();
        w.series(0, 60, 0, 0, 5);
        w.strike(0, 5);
        due(5, w.kth(0, 0));
        due(5 + 60 * 400, w.kth(0, 400));
        w.until(0, 125);
        due(125, w.kth(0, 2));
        due(-1, w.kth(0, 3));
        w.until(0, 124);
        due(65, w.kth(0, 1));
        due(-1, w.kth(0, 2));
        refused(INDEX, w, () -> w.kth(1, -1));
        refused(ARGUMENT, w, () -> w.kth(0, -1));
        refused(ARGUMENT, w, () -> w.kth(0, 401));
    }

    static void promise25() {
        Daywall w = new Daywall();
        w.series(2, 2, -1, 0, 31);
        due(59, w.next(0, 0, false));
        due(59, w.next(0, 59, false));
        due(w.day(2000, 4, 30), w.next(0, 60, false));
        due(59, w.next(0, 60, true));
        due(59, w.next(0, 59, true));
        due(-1, w.next(0, 58, true));
        w.until(0, w.day(2000, 7, 1));
        due(w.day(2000, 6, 30), w.next(0, LAST, true));
        due(-1, w.next(0, w.day(2000, 7, 1), false));
        w.series(4, 1, 1231, 0, 0);
        due(LAST, w.next(1, LAST, false));
        due(LAST, w.next(1, LAST, true));
        due(w.day(2098, 12, 31), w.next(1, LAST - 1, true));
        // Of a week with several days the nearest is told, from either side.
        w.series(1, 3, 1 + 8 + 64, 0, 4);
        due(5, w.next(2, 3, false));
        due(8, w.next(2, 6, false));
        due(8, w.next(2, 22, true));
        due(23, w.next(2, 9, false));
        due(5, w.next(2, 7, true));
        due(-1, w.next(2, 4, true));
        refused(INDEX, w, () -> w.next(0, -1, true));
        refused(INDEX, w, () -> w.next(0, LAST + 1, false));
        refused(INDEX, w, () -> w.next(3, 0, false));
    }

    static void promise26() {
        Daywall w = new Daywall();
        w.series(1, 1, 31, 0, 0);
        w.strike(0, 2);
        due(5, w.many(0, 2, 6));
        due(5, w.many(0, 0, 8));
        due(0, w.many(0, 0, 1));
        due(1, w.many(0, 2, 2));
        due(2857, w.many(0, 0, 4000));
        w.until(0, 4);
        due(3, w.many(0, 0, 4000));
        refused(INDEX, w, () -> w.many(0, -1, 5000));
        refused(INDEX, w, () -> w.many(0, 0, LAST + 1));
        refused(INDEX, w, () -> w.many(1, 0, 0));
        refused(ARGUMENT, w, () -> w.many(0, 0, 4001));
        refused(ARGUMENT, w, () -> w.many(0, 5, 4));
        w.series(0, 1, 0, 0, 36000);
        due(525, w.many(1, 33000, LAST));
    }

    static void promise27() {
        Daywall w = new Daywall();
        w.series(5, 60, -80, 0, 12345);
        w.time(0, 1439, 1);
        w.people(0, 63);
        w.skips(0, true);
        due("easter 60 -80 0 12345 36524 1439 1 63 1", w.text(0));
        refused(INDEX, w, () -> w.text(1));
        refused(INDEX, w, () -> w.text(-1));
    }

    static void promise28() {
        Daywall w = new Daywall();
        w.series(0, 3, 0, 0, 2);
        // days 3 0 0 2 36524 540 60 1 0
        due(-1, w.spoiled(0, 5, 9));
        due(0, w.spoiled(0, 0, 0));
        due(0, w.spoiled(0, 0, 11));
        due(0, w.spoiled(0, 2, 11));
        due(0, w.spoiled(0, 4, 1));
        due(-1, w.spoiled(0, 4, 11));
        due(1, w.spoiled(0, 5, 0));
        due(1, w.spoiled(0, 5, 10));
        due(1, w.spoiled(0, 5, 11));
        due(1, w.spoiled(0, 6, 4));
        due(2, w.spoiled(0, 7, 5));
        due(2, w.spoiled(0, 7, 10));
        due(3, w.spoiled(0, 9, 1));
        due(-1, w.spoiled(0, 11, 0));
        due(4, w.spoiled(0, 11, 10));
        due(4, w.spoiled(0, 12, 10));
        due(5, w.spoiled(0, 13, 10));
        due(-1, w.spoiled(0, 13, 0));
        due(5, w.spoiled(0, 13, 4));
        due(6, w.spoiled(0, 19, 10));
        due(8, w.spoiled(0, 26, 0));
        due(9, w.spoiled(0, 28, 2));
        due(-1, w.spoiled(0, 28, 1));
        due(9, w.spoiled(0, 28, 11));
        due(9, w.spoiled(0, 28, 10));
        due(7, w.spoiled(0, 23, 0));
        due(7, w.spoiled(0, 23, 10));
        // "540" in two: MINUTE 5, LENGTH 0.
        due(7, w.spoiled(0, 20, 11));
        refused(INDEX, w, () -> w.spoiled(2, 0, 12));
        refused(INDEX, w, () -> w.spoiled(0, 29, 12));
        refused(INDEX, w, () -> w.spoiled(0, -1, 0));
        refused(ARGUMENT, w, () -> w.spoiled(0, 0, 12));
        refused(ARGUMENT, w, () -> w.spoiled(0, 28, -1));
        // A "-" is right ahead of a number that may be below 0, or is 0: month 1 12 0 10 36524 540 60 1 0
        w.series(2, 1, 12, 0, 10);
        due(-1, w.spoiled(1, 8, 10));
        due(2, w.spoiled(1, 9, 10));
        due(-1, w.spoiled(1, 13, 10));
        due(4, w.spoiled(1, 14, 10));
        // MINUTE and LENGTH at their bounds: days 3 0 0 2 36524 1400 40 1 0
        w.time(0, 1400, 40);
        due(-1, w.spoiled(0, 19, 1));
        due(6, w.spoiled(0, 21, 4));
        due(7, w.spoiled(0, 25, 1));
        due(7, w.spoiled(0, 24, 0));
        due(-1, w.spoiled(0, 24, 1));
        due(7, w.spoiled(0, 24, 5));
        w.time(0, 0, 1);
        due(-1, w.spoiled(0, 21, 1));
        due(7, w.spoiled(0, 21, 0));
        due(-1, w.spoiled(0, 19, 0));
        Daywall v = new Daywall();
        v.series(4, 12, 1012, 0, 0);
        // year 12 1012 0 0 36524 540 60 1 0
        due(-1, v.spoiled(0, 5, 0));
        due(-1, v.spoiled(0, 10, 2));
        due(2, v.spoiled(0, 8, 0));
        due(2, v.spoiled(0, 8, 10));
        due(2, v.spoiled(0, 10, 4));
        due(-1, v.spoiled(0, 13, 1));
        due(3, v.spoiled(0, 13, 2));
        // A word more, and ten are right: LAST 365, MINUTE 4, LENGTH 540, the set 60, then 1, then one more.
        due(10, v.spoiled(0, 20, 11));
        // START and LAST in one: of six digits it is a number (so LAST is at fault), of seven it is none.
        Daywall u = new Daywall();
        u.series(0, 1, 0, 0, 0);
        due(4, u.spoiled(0, 12, 0));
        u.until(0, 9999);
        due(5, u.spoiled(0, 12, 0));
        // Several blanks are as one; the last two words in one.
        u.people(0, 63);
        due(-1, u.spoiled(0, 26, 11));
        due(8, u.spoiled(0, 27, 0));
        due("days 1 0 0 0 9999 540 60 63 0", u.text(0));
    }

    static void promise29() {
        Daywall w = new Daywall();
        w.series(0, 1, 0, 0, 0);
        w.series(1, 1, 127, 0, 5);
        due(-1, w.same(0, 1));
        w.until(0, 3);
        due(-1, w.same(0, 1));
        w.series(4, 1, 229, 0, 0);
        w.series(4, 1, 229, 1, 0);
        due(424, w.same(2, 3));
        w.series(2, 1, 28, 0, 31);
        w.series(2, 1, -1, 0, 31);
        due(58, w.same(4, 5));
        w.series(2, 12, 28, 0, 400);
        w.series(2, 12, -1, 0, 400);
        due(w.day(2004, 2, 28), w.same(6, 7));
        w.series(2, 12, 30, 0, 400);
        due(w.day(2001, 2, 28), w.same(8, 6));
        due(-1, w.same(8, 8));
        refused(INDEX, w, () -> w.same(0, 9));
        refused(INDEX, w, () -> w.same(-1, 0));
        // A difference at the very end of a long period is found.
        Daywall v = new Daywall();
        v.series(5, 1, -2, 0, 0);
        v.series(5, 60, -2, 0, 0);
        due(v.easter(2001) - 2, v.same(0, 1));
        v.series(0, 60, 0, 0, 0);
        v.series(0, 60, 0, 0, 59);
        due(59, v.same(2, 3));
        v.series(4, 1, 1231, 0, LAST - 300);
        v.series(4, 1, 101, 0, LAST - 300);
        due(LAST, v.same(4, 5));
        due(LAST, v.same(5, 4));
        v.drop(5);
        v.drop(4);
        // On the second day, and on the last day of the period.
        v.series(1, 1, 63, 0, 0);
        v.series(0, 1, 0, 0, 0);
        due(1, v.same(4, 5));
        v.series(1, 1, 32, 0, 0);
        v.series(1, 1, 48, 0, 0);
        due(6, v.same(6, 7));
        for (int k = 7; k >= 4; k--) {
            v.drop(k);
        }
        // Neither has a day before the wall ends.
        v.series(4, 1, 101, 0, LAST - 300);
        v.series(4, 1, 102, 0, LAST - 300);
        due(-1, v.same(4, 5));
        // What is unlike before the later START is left aside.
        v.series(4, 1, 101, 0, 1);
        due(-1, v.same(5 - 1, 6));
    }

    static void promise30() {
        Daywall w = new Daywall();
        w.series(0, 6, 0, 0, 0);
        w.series(1, 2, 1, 0, 0);
        w.series(2, 12, 1, 0, 0);
        w.series(4, 4, 101, 0, 0);
        w.series(5, 1, 0, 0, 0);
        w.series(3, 5, 1, 1, 0);
        w.series(0, 59, 0, 0, 0);
        w.series(0, 60, 0, 0, 0);
        due(6, w.period(0, 0));
        due(14, w.period(1, 1));
        due(42, w.period(0, 1));
        due(10227, w.period(2, 3));
        due(20454, w.period(0, 2));
        due(36525, w.period(4, 0));
        due(36525, w.period(5, 5));
        due(3540, w.period(6, 7));
        due(36525, w.period(6, 2));
        refused(INDEX, w, () -> w.period(0, 8));
        refused(INDEX, w, () -> w.period(-1, 0));
    }

    static void promise31() {
        Daywall w = new Daywall();
        w.series(1, 1, 31, 0, 0);
        w.series(1, 2, 65, 0, 10);
        due(0, w.differs(0, 0, 0, 400));
        w.series(0, 1, 0, 0, 0);
        due(20, w.differs(0, 2, 0, 64));
        w.until(2, 10);
        w.strike(0, 2);
        due(4, w.differs(0, 2, 0, 8));
        due(4, w.differs(0, 2, 9, 16));
        refused(INDEX, w, () -> w.differs(0, 3, 0, 0));
        refused(INDEX, w, () -> w.differs(0, 1, -1, 0));
        refused(INDEX, w, () -> w.differs(0, 1, LAST, LAST + 1));
        refused(ARGUMENT, w, () -> w.differs(0, 1, 0, 401));
        refused(ARGUMENT, w, () -> w.differs(0, 1, 1, 0));
    }

    static void promise32() {
        Daywall w = new Daywall();
        w.series(0, 12, 0, 0, 0);
        w.series(0, 12, 0, 0, 0);
        w.meet(0, -1, 12, 540, 60, 0);
        w.meet(0, -1, 12, 540, 60, 0);
        w.meet(0, -1, 12, 539, 60, 0);
        w.meet(0, -1, 13, 0, 60, 0);
        w.cancel(1);
        w.move(1, 0, 12, 540);
        w.move(0, 24, 12, 541);
        due("17819m2 17820s0 17820s1 17820s1 17820m0 17821s0", w.agenda(12, 12));
        due("540s0 17819m2 17820s0 17820s1 17820s1 17820m0 17821s0 18720m3", w.agenda(0, 13));
        due("", w.agenda(1, 11));
        // The first and the last minute of a span.
        w.move(0, 36, 7, 0);
        w.move(0, 48, 8, 1380);
        w.meet(0, -1, 6, 1439, 1, 0);
        w.meet(0, -1, 9, 0, 1, 0);
        due("10080s0 12900s0", w.agenda(7, 8));
        due("10079m4", w.agenda(6, 6));
        due("12960m5", w.agenda(9, 9));
        refused(INDEX, w, () -> w.agenda(-1, 0));
        refused(INDEX, w, () -> w.agenda(LAST, LAST + 1));
        refused(ARGUMENT, w, () -> w.agenda(0, 14));
        refused(ARGUMENT, w, () -> w.agenda(1, 0));
        // As full as it can be: each of 10 series on 14 days, and 12 moved in, and 24 meetings.
        Daywall v = new Daywall();
        for (int k = 0; k < 10; k++) {
            v.series(0, 1, 0, 0, 0);
            for (int n = 0; n < 12; n++) {
                v.move(k, 100 + n, 13, n);
            }
        }
        for (int n = 0; n < 24; n++) {
            v.meet(0, -1, 0, n, 1, 0);
        }
        String[] words = v.agenda(0, 13).split(" ");
        due(284, words.length);
        due("0m0", words[0]);
        due("19260s9", words[283]);
    }

    // ---- meetings

    static void promise33() {
        Daywall w = new Daywall();
        due(0, w.meet(0, 0, 4, 540, 60, 62));
        due(1, w.meet(0, 0, 4, 600, 60, 0));
        due(2, w.meet(0, 0, 4, 480, 60, 0));
        due(-2, w.meet(1, 0, 4, 599, 1, 0));
        due(-3, w.meet(1, 0, 4, 600, 1, 0));
        // Of several in the way the earliest, not the one with the smallest number.
        due(-4, w.meet(1, 0, 4, 0, 1440, 0));
        due(-2, w.meet(1, 0, 4, 540, 900, 0));
        due(3, w.meet(1, 1, 4, 0, 1440, 1));
        due(4, w.meet(1, -1, 4, 0, 1440, 1));
        due(5, w.meet(1, 0, 5, 540, 60, 1));
        w.cancel(0);
        due(6, w.meet(5, 0, 4, 540, 60, 31));
        int[] told = {1, 5, 0, 4 * 1440 + 540, 60, 1, 31, 0};
        for (int what = 0; what <= 7; what++) {
            due(told[what], w.ofMeeting(6, what));
        }
        due(0, w.ofGuest(6, 4, 0));
        due(0, w.ofGuest(6, 4, 1));
        due(-1, w.ofGuest(6, 4, 2));
        int[][] index = {{-1, 0, 0, 0, 1, 0}, {6, 0, 0, 0, 1, 0}, {0, -2, 0, 0, 1, 0}, {0, 3, 0, 0, 1, 0}, {0, 0, -1, 0, 1, 0},
            {0, 0, LAST + 1, -1, 0, -1}};
        for (int[] b : index) {
            refused(INDEX, w, () -> w.meet(b[0], b[1], b[2], b[3], b[4], b[5]));
        }
        int[][] argument = {{0, 0, 0, -1, 1, 0}, {0, 0, 0, 1440, 1, 0}, {0, 0, 0, 0, 0, 0}, {0, 0, 0, 0, 1441, 0},
            {0, 0, 0, 1400, 41, 0}, {0, 0, 0, 0, 1, -1}, {0, 0, 0, 0, 1, 64}, {0, 0, 0, 0, 1, 1}, {5, 0, 0, 0, 1, 32},
            {0, 0, 4, 600, MOST, 0}};
        for (int[] b : argument) {
            refused(ARGUMENT, w, () -> w.meet(b[0], b[1], b[2], b[3], b[4], b[5]));
        }
        for (int k = 7; k < 24; k++) {
            due(k, w.meet(0, 0, 100 + k, 0, 1440, 0));
        }
        refused(STATE, w, () -> w.meet(0, 0, 9, 0, 1, 0));
        // An exception goes ahead of one in the way.
        refused(STATE, w, () -> w.meet(0, 0, 4, 600, 1, 0));
    }

    static void promise34() {
        Daywall w = new Daywall();
        w.meet(0, 0, 4, 540, 60, 62);
        w.meet(1, 0, 4, 600, 60, 0);
        w.answer(0, 1, 1);
        w.ask(0, 1, 5, 0);
        due(-3, w.put(0, 4, 541));
        due(1, w.ofMeeting(0, 5));
        due(5 * 1440, w.ofGuest(0, 1, 2));
        due(2, w.put(0, 4, 540));
        due(-1, w.ofGuest(0, 1, 2));
        due(3, w.ofGuest(0, 1, 1));
        due(1, w.ofGuest(0, 1, 0));
        due(3, w.put(0, 4, 660));
        due(4 * 1440 + 660, w.ofMeeting(0, 3));
        due(4, w.put(0, LAST, 1380));
        due(5, w.put(0, 0, 0));
        refused(INDEX, w, () -> w.put(2, 0, 0));
        refused(INDEX, w, () -> w.put(0, -1, -1));
        refused(INDEX, w, () -> w.put(0, LAST + 1, 0));
        refused(ARGUMENT, w, () -> w.put(0, 0, -1));
        refused(ARGUMENT, w, () -> w.put(0, 0, 1381));
        w.cancel(0);
        refused(ARGUMENT, w, () -> w.put(0, 0, 1381));
        refused(STATE, w, () -> w.put(0, 0, 0));
        due(2, w.put(1, 0, 0));
        w.meet(0, -1, 0, 0, 60, 0);
        due(2, w.put(2, 0, 30));
    }

    static void promise35() {
        Daywall w = new Daywall();
        w.meet(0, 0, 0, 0, 60, 2);
        w.meet(0, 1, 0, 0, 60, 2);
        due(1, w.cancel(0));
        due(0, w.ofMeeting(0, 0));
        due(1, w.ofMeeting(1, 0));
        due(2, w.count(2));
        due(60, w.busy(1, 0));
        refused(STATE, w, () -> w.cancel(0));
        refused(INDEX, w, () -> w.cancel(2));
        refused(INDEX, w, () -> w.cancel(-1));
        due(0, w.cancel(1));
    }

    static void promise36() {
        Daywall w = new Daywall();
        w.meet(0, 0, 0, 0, 60, 6);
        due(1, w.answer(0, 1, 0));
        due(1, w.ofGuest(0, 1, 0));
        due(0, w.ofGuest(0, 1, 1));
        due(1, w.answer(0, 1, 3));
        due(3, w.ofGuest(0, 1, 1));
        due(1, w.answer(0, 1, 0));
        due(3, w.ofGuest(0, 1, 1));
        w.ask(0, 1, 1, 1);
        due(1, w.answer(0, 1, 1));
        due(1441, w.ofGuest(0, 1, 2));
        w.put(0, 0, 1);
        due(1, w.ofGuest(0, 1, 1));
        due(2, w.answer(0, 1, 0));
        due(0, w.ofGuest(0, 1, 1));
        due(2, w.answer(0, 1, 2));
        due(2, w.ofGuest(0, 1, 1));
        refused(INDEX, w, () -> w.answer(1, 1, 9));
        refused(INDEX, w, () -> w.answer(0, 6, 9));
        refused(INDEX, w, () -> w.answer(0, -1, 0));
        refused(ARGUMENT, w, () -> w.answer(0, 5, 4));
        refused(ARGUMENT, w, () -> w.answer(0, 1, -1));
        refused(STATE, w, () -> w.answer(0, 0, 1));
        refused(STATE, w, () -> w.answer(0, 5, 1));
        w.cancel(0);
        refused(STATE, w, () -> w.answer(0, 1, 1));
    }

    static void promise37() {
        Daywall w = new Daywall();
        w.meet(0, 0, 0, 0, 60, 6);
        refused(STATE, w, () -> w.ask(0, 1, 0, 0));
        w.answer(0, 1, 2);
        due(0, w.ask(0, 1, 0, 0));
        due(3, w.ofGuest(0, 1, 1));
        due(0, w.ofGuest(0, 1, 2));
        due(LAST * 1440 + 1380, w.ask(0, 1, LAST, 1380));
        refused(INDEX, w, () -> w.ask(1, 1, 0, 0));
        refused(INDEX, w, () -> w.ask(0, 6, 0, -1));
        refused(INDEX, w, () -> w.ask(0, 1, -1, -1));
        refused(INDEX, w, () -> w.ask(0, 1, LAST + 1, 0));
        refused(ARGUMENT, w, () -> w.ask(0, 5, 0, 1381));
        refused(ARGUMENT, w, () -> w.ask(0, 1, 0, -1));
        refused(STATE, w, () -> w.ask(0, 5, 0, 0));
        refused(STATE, w, () -> w.ask(0, 0, 0, 0));
        w.put(0, 1, 0);
        refused(STATE, w, () -> w.ask(0, 1, 0, 0));
        w.answer(0, 1, 0);
        due(7, w.ask(0, 1, 0, 7));
        w.cancel(0);
        refused(STATE, w, () -> w.ask(0, 1, 0, 0));
    }

    static void promise38() {
        Daywall w = new Daywall();
        w.meet(0, 0, 0, 0, 60, 6);
        w.meet(0, 0, 0, 100, 60, 0);
        refused(STATE, w, () -> w.agree(0, 1));
        w.answer(0, 1, 0);
        w.answer(0, 2, 1);
        refused(STATE, w, () -> w.agree(0, 1));
        w.ask(0, 1, 0, 41);
        w.ask(0, 2, 0, 30);
        due(-3, w.agree(0, 1));
        due(41, w.ofGuest(0, 1, 2));
        due(3, w.ofGuest(0, 1, 1));
        due(1, w.ofMeeting(0, 5));
        w.ask(0, 1, 0, 40);
        due(2, w.agree(0, 1));
        due(40, w.ofMeeting(0, 3));
        due(2, w.ofGuest(0, 1, 0));
        due(1, w.ofGuest(0, 1, 1));
        due(-1, w.ofGuest(0, 1, 2));
        due(1, w.ofGuest(0, 2, 0));
        due(3, w.ofGuest(0, 2, 1));
        due(-1, w.ofGuest(0, 2, 2));
        due(2, w.ofMeeting(0, 7));
        refused(STATE, w, () -> w.agree(0, 1));
        refused(STATE, w, () -> w.agree(0, 2));
        refused(STATE, w, () -> w.agree(0, 5));
        // One who handed on what he asked another time for is no guest.
        w.meet(0, -1, 0, 0, 60, 6);
        w.answer(2, 1, 0);
        w.ask(2, 1, 5, 5);
        w.hand(2, 1, 3);
        refused(STATE, w, () -> w.agree(2, 1));
        w.cancel(2);
        refused(INDEX, w, () -> w.agree(3, 1));
        refused(INDEX, w, () -> w.agree(0, 6));
        w.ask(0, 1, 0, 0);
        w.cancel(0);
        refused(STATE, w, () -> w.agree(0, 1));
    }

    static void promise39() {
        Daywall w = new Daywall();
        w.meet(0, 0, 0, 0, 60, 6);
        w.answer(0, 1, 1);
        due(4 + 8, w.hand(0, 1, 3));
        due(0, w.ofGuest(0, 3, 0));
        due(0, w.ofGuest(0, 3, 1));
        due(-1, w.ofGuest(0, 3, 2));
        due(0, w.ofMeeting(0, 7));
        due(0, w.busy(1, 0));
        due(60, w.busy(3, 0));
        refused(STATE, w, () -> w.hand(0, 3, 1));
        refused(STATE, w, () -> w.hand(0, 3, 2));
        refused(STATE, w, () -> w.hand(0, 3, 3));
        refused(STATE, w, () -> w.hand(0, 3, 0));
        refused(STATE, w, () -> w.hand(0, 1, 4));
        refused(STATE, w, () -> w.hand(0, 0, 4));
        due(4 + 16, w.hand(0, 3, 4));
        refused(STATE, w, () -> w.hand(0, 4, 3));
        refused(INDEX, w, () -> w.hand(1, 2, 5));
        refused(INDEX, w, () -> w.hand(0, 6, 5));
        refused(INDEX, w, () -> w.hand(0, 2, -1));
        refused(INDEX, w, () -> w.hand(0, 1, 6));
        w.meet(0, 1, 0, 0, 60, 8);
        due(2, w.hand(1, 3, 1));
        w.cancel(0);
        refused(STATE, w, () -> w.hand(0, 2, 5));
    }

    static void promise40() {
        Daywall w = new Daywall();
        w.meet(2, -1, 3, 4, 5, 1 + 8);
        w.answer(0, 0, 1);
        w.answer(0, 3, 1);
        int[] told = {1, 2, -1, 3 * 1440 + 4, 5, 1, 9, 9};
        for (int what = 0; what <= 7; what++) {
            due(told[what], w.ofMeeting(0, what));
        }
        w.put(0, 3, 4);
        due(0, w.ofMeeting(0, 7));
        w.answer(0, 3, 1);
        due(8, w.ofMeeting(0, 7));
        w.cancel(0);
        due(0, w.ofMeeting(0, 0));
        due(8, w.ofMeeting(0, 7));
        refused(INDEX, w, () -> w.ofMeeting(1, 9));
        refused(INDEX, w, () -> w.ofMeeting(-1, 0));
        refused(ARGUMENT, w, () -> w.ofMeeting(0, 8));
        refused(ARGUMENT, w, () -> w.ofMeeting(0, -1));
    }

    static void promise41() {
        Daywall w = new Daywall();
        w.meet(2, -1, 3, 4, 5, 1);
        due(0, w.ofGuest(0, 0, 0));
        due(0, w.ofGuest(0, 0, 1));
        due(-1, w.ofGuest(0, 0, 2));
        due(1, w.ofGuest(0, 0, 3));
        w.answer(0, 0, 2);
        due(1, w.ofGuest(0, 0, 0));
        due(2, w.ofGuest(0, 0, 1));
        due(0, w.ofGuest(0, 0, 3));
        w.put(0, 3, 4);
        due(1, w.ofGuest(0, 0, 0));
        due(2, w.ofGuest(0, 0, 1));
        due(1, w.ofGuest(0, 0, 3));
        w.cancel(0);
        due(2, w.ofGuest(0, 0, 1));
        refused(INDEX, w, () -> w.ofGuest(1, 0, 0));
        refused(INDEX, w, () -> w.ofGuest(0, 6, 9));
        refused(ARGUMENT, w, () -> w.ofGuest(0, 1, 4));
        refused(ARGUMENT, w, () -> w.ofGuest(0, 0, -1));
        refused(STATE, w, () -> w.ofGuest(0, 1, 0));
        refused(STATE, w, () -> w.ofGuest(0, 2, 0));
    }

    // ---- busy and free

    static void promise42() {
        Daywall w = new Daywall();
        due(1440, w.hours(0, 1440));
        due("0-1440", w.free(1, 0));
        due(1, w.hours(1439, 1440));
        due("1439-1440", w.free(1, 0));
        refused(ARGUMENT, w, () -> w.hours(-1, 10));
        refused(ARGUMENT, w, () -> w.hours(1440, 1441));
        refused(ARGUMENT, w, () -> w.hours(10, 10));
        refused(ARGUMENT, w, () -> w.hours(10, 9));
        refused(ARGUMENT, w, () -> w.hours(0, 1441));
        due(90, w.hours(10, 100));
    }

    static void promise43() {
        Daywall w = new Daywall();
        due(0, w.travel(60));
        due(60, w.travel(15));
        refused(ARGUMENT, w, () -> w.travel(61));
        due(15, w.travel(15));
        w.meet(0, 0, 0, 600, 60, 0);
        due(90, w.busy(0, 0));
        due(15, w.travel(0));
        refused(ARGUMENT, w, () -> w.travel(-1));
        due(60, w.busy(0, 0));
    }

    static void promise44() {
        Daywall w = new Daywall();
        w.series(0, 1, 0, 0, 0);
        w.people(0, 5);
        w.travel(30);
        w.meet(1, 0, 0, 10, 20, 1 + 4);
        w.meet(1, 1, 0, 1430, 10, 0);
        w.meet(1, -1, 0, 570, 60, 1);
        // Series 540 to 600; with the way 0 to 60; without a room 570 to 630.
        due(60 + 60 + 30, w.busy(0, 0));
        due(60 + 40 + 60, w.busy(1, 0));
        due(120, w.busy(2, 0));
        due(0, w.busy(3, 0));
        w.answer(0, 0, 2);
        due(90, w.busy(0, 0));
        w.put(0, 0, 10);
        due(90, w.busy(0, 0));
        w.answer(0, 0, 0);
        due(150, w.busy(0, 0));
        w.answer(0, 0, 3);
        due(150, w.busy(0, 0));
        w.cancel(0);
        due(90, w.busy(0, 0));
        w.strike(0, 0);
        due(60, w.busy(0, 0));
        w.move(0, 1, 0, 0);
        due(120, w.busy(0, 0));
        due(0, w.busy(0, 1));
        w.holiday(4, 103, 0);
        w.skips(0, true);
        due(0, w.busy(0, 2));
        due(60, w.busy(0, 3));
        // Moved from one day to another, at the first and the last minute of it.
        w.mend(0, 0);
        w.mend(0, 1);
        w.move(0, 8, 20, 0);
        w.move(0, 9, 20, 1380);
        w.move(0, 10, 20, 30);
        due(60 + 90 + 60, w.busy(0, 20));
        due(60, w.busy(0, 19));
        due(0, w.busy(0, 8));
        refused(INDEX, w, () -> w.busy(6, 0));
        refused(INDEX, w, () -> w.busy(-1, 0));
        refused(INDEX, w, () -> w.busy(0, -1));
        refused(INDEX, w, () -> w.busy(0, LAST + 1));
    }

    static void promise45() {
        Daywall w = new Daywall();
        due("540-1020", w.free(1, LAST));
        w.meet(0, -1, 0, 600, 60, 2);
        w.meet(2, -1, 0, 660, 60, 0);
        w.meet(3, -1, 0, 1000, 60, 0);
        due("540-600 660-1020", w.free(1, 0));
        due("540-600 660-1020", w.free(3, 0));
        due("540-600 720-1020", w.free(7, 0));
        due("540-600 720-1000", w.free(63, 0));
        due("540-1020", w.free(16, 0));
        w.hours(600, 660);
        due("", w.free(1, 0));
        due("600-660", w.free(4, 0));
        refused(INDEX, w, () -> w.free(0, -1));
        refused(INDEX, w, () -> w.free(1, LAST + 1));
        refused(ARGUMENT, w, () -> w.free(0, 0));
        refused(ARGUMENT, w, () -> w.free(64, 0));
    }

    static void promise46() {
        Daywall w = new Daywall();
        // DAY 2 is a Monday; DAY 0 and 1 are none that one works on.
        due(2 * 1440 + 540, w.propose(1, 0, 0, 60));
        due(2 * 1440 + 540, w.propose(1, 0, 0, 480));
        due(-1, w.propose(1, 0, 0, 481));
        due(-1, w.propose(1, 0, 0, 1440));
        w.meet(0, -1, 2, 540, 60, 0);
        due(2 * 1440 + 600, w.propose(1, 0, 0, 60));
        due(2 * 1440 + 540, w.propose(2, 0, 0, 60));
        due(2 * 1440 + 600, w.propose(2, 1, 0, 60));
        due(3 * 1440 + 540, w.propose(1, 0, 0, 421));
        w.holiday(4, 104, 0);
        due(4 * 1440 + 540, w.propose(1, 0, 0, 421));
        // One who must and may comes once: only who need not is counted.
        w.meet(1, -1, 4, 540, 480, 0);
        due(2 * 1440 + 600, w.propose(1, 1, 0, 60));
        due(-1, w.propose(1, 2, 0, 481));
        due(4 * 1440 + 540, w.propose(1, 2, 0, 421));
        w.hours(547, 700);
        due(5 * 1440 + 555, w.propose(1, 0, 5, 145));
        due(-1, w.propose(1, 0, 5, 146));
        due(9 * 1440 + 555, w.propose(1, 0, 7, 60));
        // The wall ends on a Thursday.
        due(LAST * 1440 + 555, w.propose(1, 0, LAST, 60));
        refused(INDEX, w, () -> w.propose(0, 0, -1, 0));
        refused(INDEX, w, () -> w.propose(1, 0, LAST + 1, 60));
        refused(ARGUMENT, w, () -> w.propose(0, 0, 0, 60));
        refused(ARGUMENT, w, () -> w.propose(64, 0, 0, 60));
        refused(ARGUMENT, w, () -> w.propose(1, -1, 0, 60));
        refused(ARGUMENT, w, () -> w.propose(1, 64, 0, 60));
        refused(ARGUMENT, w, () -> w.propose(1, 0, 0, 0));
        refused(ARGUMENT, w, () -> w.propose(1, 0, 0, 1441));
        // Fewest busy wins over earliest, and the earliest of these.
        Daywall v = new Daywall();
        v.meet(1, -1, 2, 540, 60, 4);
        v.meet(1, -1, 2, 600, 60, 0);
        v.hours(540, 660);
        v.meet(2, -1, 3, 540, 120, 0);
        due(4 * 1440 + 540, v.propose(1, 6, 2, 60));
        v.holiday(4, 105, 0);
        v.holiday(4, 106, 0);
        v.holiday(4, 107, 0);
        due(2 * 1440 + 600, v.propose(1, 6, 2, 60));
        due(2 * 1440 + 600, v.propose(1, 4, 2, 45));
        // All five who may are busy all the time.
        Daywall u = new Daywall();
        u.series(0, 1, 0, 0, 0);
        u.people(0, 62);
        u.time(0, 0, 1440);
        due(2 * 1440 + 540, u.propose(1, 62, 0, 60));
        due(-1, u.propose(2, 1, 0, 60));
        // Just before one who must is busy, just after, and at the ends of the day.
        u.drop(0);
        u.hours(0, 1440);
        u.meet(0, -1, 2, 0, 1, 0);
        u.meet(0, -1, 2, 30, 60, 0);
        due(2 * 1440 + 15, u.propose(1, 0, 2, 15));
        due(2 * 1440 + 15, u.propose(1, 0, 2, 1));
        due(2 * 1440 + 90, u.propose(1, 0, 2, 16));
        due(2 * 1440 + 90, u.propose(1, 0, 2, 1350));
        due(3 * 1440, u.propose(1, 0, 2, 1351));
        due(3 * 1440, u.propose(1, 0, 2, 1440));
        // Five days are looked at, not five workdays.
        due(9 * 1440 + 540, v.propose(1, 0, 5, 120));
        v.holiday(4, 110, 0);
        due(-1, v.propose(1, 0, 5, 120));
        due(10 * 1440 + 540, v.propose(1, 0, 6, 120));
    }

    // ---- clock and zones

    static void promise47() {
        Daywall w = new Daywall();
        w.series(0, 1, 0, 0, 0);
        due(0, w.tick(540));
        w.remind(0, 0);
        due(0, w.tick(1));
        due(1, w.tick(1439));
        due(1980, w.count(6));
        due("1980s0", w.rung());
        w.remind(0, 60);
        due(0, w.tick(1379));
        due(1, w.tick(1));
        due("1980s0 3360s0", w.rung());
        // It has rung: not again, though it is moved, or rings at another time.
        w.remind(0, 0);
        due(0, w.tick(60));
        w.move(0, 2, 3, 0);
        due(0, w.tick(900));
        w.strike(0, 3);
        due(14, w.tick(20160) + 1);
        refused(ARGUMENT, w, () -> w.tick(0));
        refused(ARGUMENT, w, () -> w.tick(-1));
        refused(ARGUMENT, w, () -> w.tick(20161));
        // Never before minute 1 of DAY 0.
        Daywall v = new Daywall();
        v.series(0, 1, 0, 0, 0);
        v.remind(0, 540);
        due(13, v.tick(13 * 1440));
        due("8640s0 10080s0 11520s0 12960s0 14400s0 15840s0 17280s0 18720s0", v.rung());
        Daywall u = new Daywall();
        u.series(0, 1, 0, 0, 0);
        u.remind(0, 539);
        due(1, u.tick(1));
        due("1s0", u.rung());
        // After the clock before, not after the clock then: moved ones, too.
        Daywall z = new Daywall();
        z.series(0, 7, 0, 0, 700);
        z.remind(0, 10);
        z.move(0, 700, 0, 110);
        z.move(0, 707, 0, 111);
        z.move(0, 714, 0, 121);
        due(1, z.tick(100));
        due(1, z.tick(10));
        due(1, z.tick(1));
        due("100s0 101s0 111s0", z.rung());
        z.move(0, 721, 0, 121);
        due(0, z.tick(20160));
        // A holiday that is skipped does not ring, a moved one does at its time.
        Daywall x = new Daywall();
        x.holiday(4, 102, 0);
        x.series(0, 1, 0, 0, 0);
        x.skips(0, true);
        x.remind(0, 1440);
        x.move(0, 0, 1, 10);
        due(1, x.tick(1440));
        due("10s0", x.rung());
        // The wall's end.
        Daywall y = new Daywall();
        for (int n = 0; n < 2608; n++) {
            y.tick(20160);
        }
        due(2608 * 20160, y.count(6));
        int left = 36525 * 1440 - 1 - y.count(6);
        refused(STATE, y, () -> y.tick(left + 1));
        due(0, y.tick(left));
        refused(STATE, y, () -> y.tick(1));
    }

    static void promise48() {
        Daywall w = new Daywall();
        w.series(0, 1, 0, 0, 0);
        w.series(0, 1, 0, 0, 0);
        w.time(1, 480, 60);
        w.remind(0, 60);
        w.remind(1, 0);
        // Of one time by number of the series, then by rule day.
        w.move(1, 1, 0, 480);
        due(3, w.tick(1440));
        due("480s0 480s1 480s1", w.rung());
        due(1, w.tick(1440));
        due("480s0 480s1 480s1 1920s0", w.rung());
        w.drop(0);
        due("480s0 480s1 480s1 1920s0", w.rung());
        due(5, w.tick(5 * 1440));
        due("480s1 480s1 1920s0 3360s0 4800s0 6240s0 7680s0 9120s0", w.rung());
        due(9, w.count(7));
        // By time, though the later series rings first.
        Daywall v = new Daywall();
        v.series(0, 1, 0, 0, 0);
        v.series(0, 1, 0, 0, 0);
        v.remind(0, 0);
        v.remind(1, 1);
        due(2, v.tick(540));
        due("539s1 540s0", v.rung());
    }

    static void promise49() {
        Daywall w = new Daywall();
        due(1, w.zone(0, 5, 840));
        due(2, w.zone(0, 0, -720));
        due(2, w.zone(0, 5, 60));
        due(1, w.zone(5, LAST, 60));
        refused(INDEX, w, () -> w.zone(6, 0, 900));
        refused(INDEX, w, () -> w.zone(0, -1, 0));
        refused(INDEX, w, () -> w.zone(0, LAST + 1, 0));
        refused(ARGUMENT, w, () -> w.zone(0, 0, -721));
        refused(ARGUMENT, w, () -> w.zone(0, 0, 841));
        for (int k = 3; k <= 8; k++) {
            due(k, w.zone(0, 100 * k, k));
        }
        refused(STATE, w, () -> w.zone(0, 50, 1));
        refused(ARGUMENT, w, () -> w.zone(0, 50, 841));
        due(8, w.zone(0, 800, -8));
        due(800 * 1440 - 8, w.local(0, 800, 0));
        due(1, w.zone(1, 50, 0));
    }

    static void promise50() {
        Daywall w = new Daywall();
        w.zone(0, 10, 90);
        w.zone(0, 5, -30);
        w.zone(0, 20, 90);
        due(4 * 1440 + 1439, w.local(0, 4, 1439));
        due(5 * 1440 - 30, w.local(0, 5, 0));
        due(9 * 1440 + 1409, w.local(0, 9, 1439));
        due(10 * 1440 + 90, w.local(0, 10, 0));
        due(LAST * 1440 + 90 + 7, w.local(0, LAST, 7));
        due(10 * 1440, w.local(1, 10, 0));
        w.zone(2, 0, -720);
        due(-720, w.local(2, 0, 0));
        refused(INDEX, w, () -> w.local(6, 0, -1));
        refused(INDEX, w, () -> w.local(0, -1, 0));
        refused(INDEX, w, () -> w.local(0, LAST + 1, 0));
        refused(ARGUMENT, w, () -> w.local(0, 0, -1));
        refused(ARGUMENT, w, () -> w.local(0, 0, 1440));
    }

    // ---- tasks and notes

    static void promise51() {
        Daywall w = new Daywall();
        due(0, w.task(1));
        due(1, w.task(20));
        refused(ARGUMENT, w, () -> w.task(0));
        refused(ARGUMENT, w, () -> w.task(21));
        for (int k = 2; k < 8; k++) {
            due(k, w.task(k));
        }
        refused(ARGUMENT, w, () -> w.task(21));
        refused(STATE, w, () -> w.task(1));
        due(8, w.count(4));
    }

    static void promise52() {
        Daywall w = new Daywall();
        for (int k = 0; k < 4; k++) {
            w.task(1);
        }
        due(1, w.need(1, 0));
        due(1, w.need(2, 1));
        due(2, w.need(2, 0));
        due(1, w.need(3, 2));
        refused(STATE, w, () -> w.need(1, 0));
        refused(STATE, w, () -> w.need(1, 1));
        refused(STATE, w, () -> w.need(0, 1));
        refused(STATE, w, () -> w.need(0, 3));
        refused(STATE, w, () -> w.need(1, 3));
        due(2, w.need(3, 0));
        refused(INDEX, w, () -> w.need(4, 0));
        refused(INDEX, w, () -> w.need(0, 4));
        refused(INDEX, w, () -> w.need(-1, 0));
    }

    static void promise53() {
        Daywall w = new Daywall();
        w.task(1);
        w.task(5);
        w.task(2);
        w.task(20);
        due(2, w.done(0, 0));
        due(2, w.done(0, 2));
        due(6, w.done(1, 0));
        due(9, w.done(1, 3));
        w.need(2, 1);
        due(10, w.done(2, 0));
        w.need(2, 3);
        due(27, w.done(3, 0));
        due(31, w.done(2, 0));
        w.holiday(4, 103, 0);
        due(3, w.done(0, 0));
        due(9, w.done(1, 0));
        due(LAST, w.done(0, LAST));
        due(-1, w.done(1, LAST));
        due(-1, w.done(2, LAST - 10));
        w.need(0, 1);
        due(10, w.done(0, 0));
        due(-1, w.done(0, LAST));
        refused(INDEX, w, () -> w.done(4, 0));
        refused(INDEX, w, () -> w.done(-1, 0));
        refused(INDEX, w, () -> w.done(0, -1));
        refused(INDEX, w, () -> w.done(0, LAST + 1));
        // A long chain, told against the order of the numbers.
        Daywall v = new Daywall();
        for (int k = 0; k < 8; k++) {
            v.task(1);
        }
        for (int k = 0; k < 7; k++) {
            v.need(k, k + 1);
        }
        due(11, v.done(0, 2));
        due(2, v.done(7, 2));
    }

    static void promise54() {
        Daywall w = new Daywall();
        due(1, w.note(0, 9, 99));
        due(2, w.note(0, 0, 0));
        due(2, w.note(0, 0, 5));
        due(1, w.note(1, 0, 7));
        due("0=5 9=99", w.notes(0));
        due("0=7", w.notes(1));
        refused(INDEX, w, () -> w.note(2, 0, 100));
        refused(INDEX, w, () -> w.note(-1, 0, 0));
        refused(INDEX, w, () -> w.note(0, 10, 0));
        refused(INDEX, w, () -> w.note(0, -1, 0));
        refused(ARGUMENT, w, () -> w.note(0, 0, 100));
        refused(ARGUMENT, w, () -> w.note(0, 0, -1));
    }

    static void promise55() {
        Daywall w = new Daywall();
        w.note(0, 3, 0);
        w.note(0, 4, 1);
        w.note(1, 3, 1);
        due(1, w.erase(0, 3));
        due("4=1", w.notes(0));
        due("3=1", w.notes(1));
        refused(STATE, w, () -> w.erase(0, 3));
        refused(STATE, w, () -> w.erase(1, 4));
        refused(INDEX, w, () -> w.erase(2, 3));
        refused(INDEX, w, () -> w.erase(0, 10));
        refused(INDEX, w, () -> w.erase(-1, -1));
        due(0, w.erase(1, 3));
    }

    static void promise56() {
        for (int k = 0; k < 2; k++) {
            boolean isSecondFirst = k == 1;
            Daywall w = new Daywall();
            due(0, w.merge(isSecondFirst));
            w.note(0, 1, 10);
            w.note(1, 2, 20);
            w.note(0, 3, 30);
            w.note(1, 3, 30);
            w.note(0, 4, 41);
            w.note(1, 4, 40);
            due(4, w.merge(isSecondFirst));
            due("1=10 2=20 3=30 4=41", w.notes(0));
            due("1=10 2=20 3=30 4=41", w.notes(1));
            // Of two unlike ones the one that is not the base's, though it is the smaller.
            w.note(0, 1, 5);
            w.note(1, 2, 6);
            w.note(0, 3, 1);
            w.note(1, 3, 2);
            w.erase(0, 4);
            due(4, w.merge(isSecondFirst));
            due("1=5 2=6 3=2 4=41", w.notes(0));
            due("1=5 2=6 3=2 4=41", w.notes(1));
            // Gone from both, it is gone from the base, too.
            w.erase(0, 1);
            w.erase(1, 1);
            due(3, w.merge(isSecondFirst));
            w.note(0, 1, 5);
            w.note(1, 1, 4);
            due(4, w.merge(isSecondFirst));
            due("1=5 2=6 3=2 4=41", w.notes(1));
            // Gone from one, it comes again.
            w.erase(0, 2);
            w.note(1, 2, 0);
            due(4, w.merge(isSecondFirst));
            due("1=5 2=0 3=2 4=41", w.notes(0));
        }
    }

    static void promise57() {
        Daywall w = new Daywall();
        due("", w.notes(0));
        w.note(1, 7, 70);
        w.note(1, 2, 0);
        due("2=0 7=70", w.notes(1));
        due("", w.notes(0));
        refused(INDEX, w, () -> w.notes(2));
        refused(INDEX, w, () -> w.notes(-1));
    }

    // ---- the whole

    static void promise58() {
        Daywall w = new Daywall();
        due(1, w.knock());
        due(2, w.knock());
        refused(INDEX, w, () -> w.text(0));
        due(2, w.count(9));
        due(3, w.knock());
    }

    static void promise59() {
        Daywall w = new Daywall();
        w.series(0, 1, 0, 0, 0);
        w.series(0, 1, 0, 0, 0);
        w.holiday(5, 0, 0);
        w.holiday(5, 0, 0);
        w.holiday(5, 0, 0);
        for (int k = 0; k < 4; k++) {
            w.meet(0, -1, 0, 0, 1, 0);
        }
        w.cancel(2);
        for (int k = 0; k < 5; k++) {
            w.task(1);
            w.strike(k % 2, k);
        }
        w.move(0, 10, 10, 10);
        w.remind(0, 0);
        w.tick(7 * 1440);
        for (int k = 0; k < 8; k++) {
            w.note(k % 2, k % 5, k);
        }
        for (int k = 0; k < 9; k++) {
            w.knock();
        }
        int[] due = {2, 3, 4, 3, 5, 6, 10080, 4, 8, 9};
        for (int what = 0; what <= 9; what++) {
            due(due[what], w.count(what));
        }
        refused(ARGUMENT, w, () -> w.count(10));
        refused(ARGUMENT, w, () -> w.count(-1));
    }

    static void promise60() {
        Daywall w = new Daywall();
        due(true, w.isSound());
        int[][] rules = {{0, 7, 0, 0, 36500}, {1, 3, 65, 0, 1}, {2, 1, -31, 1, 30}, {2, 5, 31, 0, 59}, {3, 1, 127, -8, 17},
            {3, 2, 1, 6, 0}, {4, 1, 229, 1, 400}, {4, 1, 1231, 0, LAST}, {5, 1, -80, 0, 0}, {5, 3, 240, 0, 300}};
        for (int[] r : rules) {
            due(true, w.series(r[0], r[1], r[2], r[3], r[4]) >= 0);
        }
        w.until(1, 20);
        w.until(4, 17);
        w.meet(0, 0, 0, 540, 60, 62);
        w.meet(0, 0, 0, 600, 60, 62);
        w.meet(0, 1, 0, 540, 60, 62);
        w.note(0, 1, 1);
        w.note(1, 1, 2);
        due(true, w.isSound());
    }

    static void promise61() {
        // An empty wall: ten counts of 0, for six persons 0 and 0, no holiday, texts of 0, 0, 0 and 8 signs, sound.
        long d = 5811;
        for (int k = 0; k < 10 + 12 + 1 + 3; k++) {
            d = d * 31;
        }
        d = d * 31 + "540-1020".length();
        d = d * 31 + 1;
        due(d, new Daywall().digest());
        // A wall with one of each, added up by the words of the promise.
        Daywall w = new Daywall();
        w.series(0, 2, 0, 0, 0);
        w.holiday(4, 102, 0);
        w.meet(1, 2, 1, 600, 30, 1);
        w.answer(0, 0, 1);
        w.task(3);
        w.note(0, 1, 2);
        w.zone(3, 0, 7);
        w.remind(0, 5);
        w.strike(0, 2);
        w.knock();
        w.tick(1440);
        long[] values = {1, 1, 1, 1, 1, 1, 1440, 1, 1, 1,
            0, LAST, 5, 1, 0, 2, 2, w.text(0).length(),
            1, 1, 2, 2040, 30, 1, 1, 1, 1, 1, -1, 0,
            30, 1440, 30, 1440, 0, 1440, 0, 1447, 0, 1440, 0, 1440,
            4, 1, 3, 0, "535s0".length(), "540-600 630-1020".length(), 1};
        long due = 5811;
        for (long v : values) {
            due = due * 31 + v;
        }
        due(due, w.digest());
        due(due, w.digest());
        w.knock();
        due(false, due == w.digest());
    }

    /** LANGUAGE.md, rule 1: the face, and nothing beside it but private members. */
    static void promise0() {
        Set<String> face = new TreeSet<>();
        for (Method m : NaiveWall.class.getDeclaredMethods()) {
            if (Modifier.isPublic(m.getModifiers())) {
                face.add(m.getName());
            }
        }
        Set<String> found = new TreeSet<>();
        for (Method m : Daywall.class.getDeclaredMethods()) {
            if (Modifier.isPublic(m.getModifiers())) {
                found.add(m.getName());
            } else {
                due(true, Modifier.isPrivate(m.getModifiers()) && !face.contains(m.getName()));
            }
        }
        due(face, found);
        for (Class<?> inside : Daywall.class.getDeclaredClasses()) {
            due(true, Modifier.isStatic(inside.getModifiers()) && !Modifier.isPublic(inside.getModifiers()));
            for (Method m : inside.getDeclaredMethods()) {
                due(false, face.contains(m.getName()));
            }
        }
        for (Field f : Daywall.class.getDeclaredFields()) {
            due(true, Modifier.isPrivate(f.getModifiers()));
            due(true, !Modifier.isStatic(f.getModifiers()) || Modifier.isFinal(f.getModifiers()));
        }
        Constructor<?>[] made = Daywall.class.getDeclaredConstructors();
        due(1, made.length);
        due(true, Modifier.isPublic(made[0].getModifiers()) && Modifier.isFinal(Daywall.class.getModifiers()));
    }

    public static void main(String[] args) throws Exception {
        promise0();
        for (promise = 1; promise <= 61; promise++) {
            PromiseTest.class.getDeclaredMethod("promise" + promise).invoke(null);
        }
        promise = 9;
        promise9rules();
        promise = 18;
        promise18rung();
        System.out.println("PromiseTest: " + checks + " checks, " + wrong + " wrong");
        if (wrong != 0) {
            System.exit(1);
        }
    }
}
