import java.math.BigInteger;
import java.time.LocalDate;
import java.util.ArrayList;
import java.util.List;

/** The edges of the Description's part 2, but for TEXT: what a SERIES is, and on which DAYS its RULE falls. */
public final class EdgeSeriesTest extends Edges {
    private static final String SERIES = "2. Series";

    /** The RULE DAYS in a span, found one after the other. */
    private static List<Integer> found(int form, int every, int a, int b, int start, int from, int to) {
        Steps steps = w -> w.series(form, every, a, b, start);
        Daywall w = made(steps);
        List<Integer> days = new ArrayList<>();
        int day = w.next(0, from, false);
        while (day >= 0 && day <= to) {
            days.add(day);
            // A new wall in time: of one there are 512 answers only.
            w = days.size() % 500 == 0 ? made(steps) : w;
            day = day < LAST ? w.next(0, day + 1, false) : -1;
        }
        return days;
    }

    /** That of these DAYS, each asked by itself, just those that are due are RULE DAYS. */
    private static void dueDays(List<Integer> due, int form, int every, int a, int b, int start, int from, int to) {
        due(due, found(form, every, a, b, start, from, to));
        for (int day = from; day <= to; day++) {
            Daywall w = new Daywall();
            w.series(form, every, a, b, start);
            due(due.contains(day) ? 1 : 0, w.on(0, day));
        }
    }

    // ---- what a SERIES has

    @Says(at = SERIES, value = "At most 10 SERIES, numbered from 0;")
    static void tenSeriesAtMost() {
        Daywall w = new Daywall();
        for (int k = 0; k < 10; k++) {
            due(k, w.series(0, 1, 0, 0, 0));
        }
        refused(STATE, Edges::tenSeries, x -> x.series(0, 1, 0, 0, 0));
        refused(STATE, Edges::tenSeries, x -> x.copy(0));
        refused(STATE, Edges::tenSeries, x -> x.cut(0, 5));
        // One that is gone makes room for one.
        w.drop(4);
        due(9, w.series(0, 1, 0, 0, 0));
        w.drop(9);
        due(9, w.copy(0));
        w.drop(0);
        due(9, w.cut(0, 5));
        due(0, w.join(0, 9));
        due(9, w.count(0));
    }

    @Says(at = SERIES, value = "if one is gone, those after it move up.")
    static void thoseAfterMoveUp() {
        for (int gone = 0; gone < 10; gone++) {
            Daywall w = new Daywall();
            for (int k = 0; k < 10; k++) {
                w.series(0, k + 1, 0, 0, k);
                w.strike(k, k);
            }
            w.drop(gone);
            for (int k = 0; k < 9; k++) {
                int was = k < gone ? k : k + 1;
                due("days " + (was + 1) + " 0 0 " + was + " 36524 540 60 1 0", w.text(k));
                due(2, w.on(k, was));
            }
        }
    }

    @Says(at = SERIES, value = "Each has a FORM, EVERY (1 to 60), A, B, a START,")
    static void everies() {
        bounds(ARGUMENT, NOTHING, 1, 60, (w, x) -> w.series(0, x, 0, 0, 0));
        Daywall w = new Daywall();
        w.series(0, 60, 0, 0, LAST - 60);
        due(LAST - 60, w.kth(0, 0));
        due(LAST, w.kth(0, 1));
        due(-1, w.kth(0, 2));
    }

    @Says(at = SERIES, value = "a LAST (36524 at first), a MINUTE (540 at first), a LENGTH in minutes (60 at first;")
    static void lastMinuteAndLengthAtFirst() {
        Daywall w = new Daywall();
        w.series(0, 1, 0, 0, 7);
        due("days 1 0 0 7 36524 540 60 1 0", w.text(0));
        due(LAST, w.next(0, LAST, true));
        due(time(7, 540) + "s0", w.agenda(0, 7));
        due("600-1020", w.free(1, 7));
    }

    @Says(at = SERIES, value = "MINUTE + LENGTH is 1440 at most),")
    static void noLongerThanItsDay() {
        for (int minute : new int[] {0, 1, 720, 1438, 1439}) {
            bounds(ARGUMENT, Edges::threeSeries, 1, 1440 - minute, (w, x) -> w.time(2, minute, x));
        }
    }

    @Says(at = SERIES, value = "a set of PEOPLE (1 at first), SKIPS (not at first), REMIND (NONE at first).")
    static void peopleSkipsAndRemindAtFirst() {
        Daywall w = new Daywall();
        w.holiday(4, 101, 0);
        w.series(0, 1, 0, 0, 0);
        due(60, w.busy(0, 0));
        due(0, w.busy(1, 0));
        due(1, w.on(0, 0));
        due(0, w.tick(1440));
        due(1, w.people(0, 1));
        due(false, w.skips(0, false));
        due(-1, w.remind(0, -1));
    }

    @Says(at = SERIES, value = "PEOPLE are 0 to 5.")
    static void sixPeople() {
        persons(Edges::lived, (w, x) -> w.busy(x, 0));
        bounds(ARGUMENT, Edges::threeSeries, 1, 63, (w, x) -> w.people(0, x));
        Daywall w = new Daywall();
        w.series(0, 1, 0, 0, 0);
        w.people(0, 63);
        for (int person = 0; person <= 5; person++) {
            due(60, w.busy(person, 0));
        }
    }

    // ---- UNITS and RULES

    @Says(at = SERIES, value = "The UNIT of a DAY: FORM 0: the DAY; 1: its WEEK; 2 and 3: its MONTH; 4 and 5: its year.")
    static void units() {
        // START is the last DAY of its UNIT: the next UNIT but one begins soon.
        due(List.of(1, 3, 5), found(0, 2, 0, 0, 1, 0, 5));
        due(List.of(1, 9, 10, 11, 12, 13, 14, 15, 23), found(1, 2, 127, 0, 1, 0, 23));
        due(List.of(30, date(2000, 3, 31), date(2000, 5, 31)), found(2, 2, -1, 0, 30, 0, 160));
        due(List.of(60, date(2000, 5, 1)), found(3, 2, 127, 1, 30, 0, 160));
        due(List.of(365, date(2002, 12, 31), date(2004, 12, 31)), found(4, 2, 1231, 0, 365, 0, 2000));
        due(List.of(date(2002, 1, 1), date(2004, 1, 1)), found(4, 2, 101, 0, 365, 0, 2000));
        due(List.of(date(2002, 3, 31), date(2004, 4, 11)), found(5, 2, 0, 0, 365, 0, 2000));
        // START is the first DAY of its UNIT.
        due(List.of(2, 3, 4, 5, 6, 7, 8, 16), found(1, 2, 127, 0, 2, 0, 16));
        due(List.of(59, date(2000, 4, 30)), found(2, 2, -1, 0, 31, 0, 125));
        due(List.of(date(2001, 12, 31), date(2003, 12, 31)), found(4, 2, 1231, 0, 366, 0, 2000));
    }

    @Says(at = SERIES, value = "A DAY is one of the RULE from START on if its UNIT less that of START is a multiple of EVERY,"
        + " and it is FIT:")
    static void fromStartOnAtEachMultiple() {
        int[][] rules = {{0, 0, 0}, {1, 127, 0}, {2, 1, 0}, {3, 127, 1}, {4, 101, 0}, {5, 0, 0}};
        for (int[] rule : rules) {
            List<Integer> each = found(rule[0], 1, rule[1], rule[2], 0, 0, 1500);
            for (int every : new int[] {1, 2, 3, 60}) {
                int start = each.get(2);
                List<Integer> due = new ArrayList<>();
                for (int day : each) {
                    if (day >= start && (unit(rule[0], day) - unit(rule[0], start)) % every == 0) {
                        due.add(day);
                    }
                }
                due(due, found(rule[0], every, rule[1], rule[2], start, 0, 1500));
                Daywall w = new Daywall();
                w.series(rule[0], every, rule[1], rule[2], start);
                due(1, w.on(0, start));
                due(0, w.on(0, each.get(0)) + w.on(0, each.get(1)) + w.on(0, start - 1));
            }
        }
        // A START that is not FIT is no DAY of the RULE, though its UNIT is the one that is counted from.
        due(List.of(16, 30), found(1, 2, 1, 0, 8, 0, 36));
        due(List.of(16, 30), found(1, 2, 1, 0, 3, 0, 36));
        due(List.of(date(2000, 3, 1), date(2000, 5, 1)), found(2, 2, 1, 0, 1, 0, 121));
    }

    private static int unit(int form, int day) {
        LocalDate t = dateOf(day);
        return form == 0 ? day : form == 1 ? (day + 5) / 7 : form <= 3 ? 12 * t.getYear() + t.getMonthValue() : t.getYear();
    }

    // ---- FORMS

    @Says(at = SERIES, value = "FORM 0 (days): always. A and B are 0.")
    static void formDays() {
        bounds(ARGUMENT, NOTHING, 0, 0, (w, x) -> w.series(0, 1, x, 0, 0));
        bounds(ARGUMENT, NOTHING, 0, 0, (w, x) -> w.series(0, 1, 0, x, 0));
        dueDays(List.of(0, 1, 2, 3, 4, 5, 6, 7), 0, 1, 0, 0, 0, 0, 7);
        dueDays(List.of(LAST), 0, 60, 0, 0, LAST, LAST - 60, LAST);
        dueDays(List.of(5, 65), 0, 60, 0, 0, 5, 0, 70);
    }

    @Says(at = SERIES, value = "FORM 1 (weeks): its WEEKDAY is in the set A (1 to 127). B is 0.")
    static void formWeeks() {
        bounds(ARGUMENT, NOTHING, 1, 127, (w, x) -> w.series(1, 1, x, 0, 0));
        bounds(ARGUMENT, NOTHING, 0, 0, (w, x) -> w.series(1, 1, 1, x, 0));
        for (int set = 1; set <= 127; set++) {
            List<Integer> due = new ArrayList<>();
            for (int day = 0; day <= 20; day++) {
                if ((set >> dateOf(day).getDayOfWeek().getValue() - 1 & 1) == 1) {
                    due.add(day);
                }
            }
            due(due, found(1, 1, set, 0, 0, 0, 20));
        }
        dueDays(List.of(2, 9, 16), 1, 1, 1, 0, 0, 0, 22);
        dueDays(List.of(1, 8, 15), 1, 1, 64, 0, 0, 0, 21);
        // The wall begins on a Saturday, and ends on a Thursday: its first and its last WEEK are no whole ones.
        dueDays(List.of(LAST - 3, LAST), 1, 1, 1 + 8 + 16, 0, LAST - 5, LAST - 5, LAST);
        dueDays(List.of(0, 14), 1, 2, 32, 0, 0, 0, 20);
    }

    @Says(at = SERIES, value = "FORM 2 (month): A is 1 to 31, or -31 to -1;")
    static void boundsOfFormMonth() {
        for (int a = -31; a <= 31; a++) {
            int set = a;
            if (a == 0) {
                refused(ARGUMENT, NOTHING, w -> w.series(2, 1, set, 0, 0));
            } else {
                let(NOTHING, w -> w.series(2, 1, set, 0, 0));
            }
        }
        for (int a : new int[] {-33, -32, 32, 33, LEAST, MOST}) {
            refused(ARGUMENT, NOTHING, w -> w.series(2, 1, a, 1, 0));
        }
    }

    @Says(at = SERIES, value = {"p is A, or, for A below 0, the length of its month + 1 + A.",
        "If p is 1 to the length of the month: it is the day p of the month."})
    static void daysOfMonths() {
        due(List.of(0, 31, 60), found(2, 1, 1, 0, 0, 0, 80));
        due(List.of(30, 59, 90), found(2, 1, -1, 0, 0, 0, 110));
        due(List.of(29, 58, 89), found(2, 1, -2, 0, 0, 0, 110));
        due(List.of(27, 58, 87), found(2, 1, 28, 0, 0, 0, 100));
        due(List.of(0, 60), found(2, 1, -31, 0, 0, 0, 100));
        for (int a = -28; a <= 28; a++) {
            List<Integer> due = new ArrayList<>();
            for (int month = 0; month < 15 && a != 0; month++) {
                LocalDate first = LocalDate.of(2000, 1, 1).plusMonths(month);
                due.add(date(first.getYear(), first.getMonthValue(), a > 0 ? a : first.lengthOfMonth() + 1 + a));
            }
            if (a != 0) {
                due(due, found(2, 1, a, 0, 0, 0, date(2001, 3, 31)));
            }
        }
    }

    @Says(at = SERIES, value = "If not: none, if B is 0;")
    static void noneInShortMonths() {
        for (int a = 29; a <= 31; a++) {
            List<Integer> due = new ArrayList<>();
            List<Integer> back = new ArrayList<>();
            for (int month = 0; month < 26; month++) {
                LocalDate first = LocalDate.of(2000, 1, 1).plusMonths(month);
                if (first.lengthOfMonth() >= a) {
                    due.add(date(first.getYear(), first.getMonthValue(), a));
                    back.add(date(first.getYear(), first.getMonthValue(), first.lengthOfMonth() + 1 - a));
                }
            }
            due(due, found(2, 1, a, 0, 0, 0, date(2002, 2, 28)));
            due(back, found(2, 1, -a, 0, 0, 0, date(2002, 2, 28)));
        }
        // Each twelfth month from a February on is one.
        due(List.of(date(2000, 2, 29), date(2004, 2, 29)), found(2, 12, 29, 0, 31, 0, 2000));
        due(List.of(), found(2, 12, 30, 0, 31, 0, LAST));
        due(List.of(), found(2, 12, -30, 0, 31, 0, LAST));
    }

    @Says(at = SERIES, value = "if B is 1, the last day of the month for A above 0, the first one for A below 0.")
    static void endsOfShortMonths() {
        for (int a = 29; a <= 31; a++) {
            List<Integer> due = new ArrayList<>();
            List<Integer> back = new ArrayList<>();
            for (int month = 0; month < 26; month++) {
                LocalDate first = LocalDate.of(2000, 1, 1).plusMonths(month);
                int length = first.lengthOfMonth();
                due.add(date(first.getYear(), first.getMonthValue(), Math.min(a, length)));
                back.add(date(first.getYear(), first.getMonthValue(), Math.max(1, length + 1 - a)));
            }
            due(due, found(2, 1, a, 1, 0, 0, date(2002, 2, 28)));
            due(back, found(2, 1, -a, 1, 0, 0, date(2002, 2, 28)));
        }
        dueDays(List.of(59), 2, 1, 31, 1, 31, 31, 89);
        dueDays(List.of(31), 2, 1, -31, 1, 31, 31, 59);
    }

    @Says(at = SERIES, value = "(B is 0 or 1.) FORM 3 (place)")
    static void boundsOfBOfFormMonth() {
        bounds(ARGUMENT, NOTHING, 0, 1, (w, x) -> w.series(2, 1, 31, x, 0));
        bounds(ARGUMENT, NOTHING, 0, 1, (w, x) -> w.series(2, 1, -1, x, 0));
    }

    @Says(at = SERIES, value = "FORM 3 (place): of all days of its month with a WEEKDAY in the set A (1 to 127) it is the B-th of these"
        + " (B 1 to 8), or the -B-th from the last of them (B -8 to -1; -1 is the last).")
    static void formPlace() {
        bounds(ARGUMENT, NOTHING, 1, 127, (w, x) -> w.series(3, 1, x, 1, 0));
        for (int b = -10; b <= 10; b++) {
            int place = b;
            if (b == 0 || b < -8 || b > 8) {
                refused(ARGUMENT, NOTHING, w -> w.series(3, 1, 1, place, 0));
            } else {
                let(NOTHING, w -> w.series(3, 1, 1, place, 0));
            }
        }
        // All weekdays: the B-th day of the month, the first one and the last one too.
        dueDays(List.of(0, 31), 3, 1, 127, 1, 0, 0, 59);
        dueDays(List.of(30, 59), 3, 1, 127, -1, 0, 0, 59);
        due(List.of(7, 38, 67), found(3, 1, 127, 8, 0, 0, 80));
        due(List.of(23, 52, 83), found(3, 1, 127, -8, 0, 0, 90));
        for (int set : new int[] {1, 64, 32, 31, 96, 5, 127}) {
            for (int b = 1; b <= 8; b++) {
                due(places(set, b), found(3, 1, set, b, 0, 0, date(2001, 3, 31)));
                due(places(set, -b), found(3, 1, set, -b, 0, 0, date(2001, 3, 31)));
            }
        }
    }

    private static List<Integer> places(int set, int b) {
        List<Integer> due = new ArrayList<>();
        for (int month = 0; month < 15; month++) {
            LocalDate first = LocalDate.of(2000, 1, 1).plusMonths(month);
            List<Integer> days = new ArrayList<>();
            for (int k = 1; k <= first.lengthOfMonth(); k++) {
                if ((set >> first.withDayOfMonth(k).getDayOfWeek().getValue() - 1 & 1) == 1) {
                    days.add(date(first.getYear(), first.getMonthValue(), k));
                }
            }
            int at = b > 0 ? b - 1 : days.size() + b;
            if (at >= 0 && at < days.size()) {
                due.add(days.get(at));
            }
        }
        return due;
    }

    @Says(at = SERIES, value = "None, if there are fewer.")
    static void noneInMonthsWithFewer() {
        // Five Saturdays: January, April, July, September and December 2000.
        List<Integer> fifths = List.of(date(2000, 1, 29), date(2000, 4, 29), date(2000, 7, 29), date(2000, 9, 30), date(2000, 12, 30));
        due(fifths, found(3, 1, 32, 5, 0, 0, 365));
        List<Integer> backwards = List.of(0, date(2000, 4, 1), date(2000, 7, 1), date(2000, 9, 2), date(2000, 12, 2));
        due(backwards, found(3, 1, 32, -5, 0, 0, 365));
        for (int b : new int[] {6, 7, 8, -6, -7, -8}) {
            due(List.of(), found(3, 1, 32, b, 0, 0, LAST));
        }
        // Of two weekdays there are eight at least in each month.
        due(1200, found(3, 1, 3, 8, 0, 0, LAST).size());
        due(1200, found(3, 1, 3, -8, 0, 0, LAST).size());
    }

    @Says(at = SERIES, value = "FORM 4 (year): A is 100 * month + day of a date that a LEAP year has; it is that date.")
    static void formYear() {
        List<Integer> dates = new ArrayList<>();
        for (int day = 0; day < 366; day++) {
            dates.add(100 * dateOf(day).getMonthValue() + dateOf(day).getDayOfMonth());
        }
        for (int a = 90; a <= 1340; a++) {
            int set = a;
            if (!dates.contains(a)) {
                refused(ARGUMENT, NOTHING, w -> w.series(4, 1, set, 0, 0));
                continue;
            }
            due(List.of(dates.indexOf(a)), found(4, 1, a, 0, 0, 0, 365));
            due(a == 229 ? 0 : 1, found(4, 1, a, 0, 366, 366, 366 + 364).size());
        }
        for (int a : new int[] {0, 1, -1, -101, 31, 10101, LEAST, MOST}) {
            refused(ARGUMENT, NOTHING, w -> w.series(4, 1, a, 0, 0));
        }
        dueDays(List.of(365), 4, 1, 1231, 0, 0, 300, 365);
        dueDays(List.of(0, 366), 4, 1, 101, 0, 0, 0, 366);
        dueDays(List.of(LAST), 4, 1, 1231, 0, LAST, LAST - 1, LAST);
    }

    @Says(at = SERIES, value = "In years without 29 February for A of 229: none, if B is 0;")
    static void noneInYearsWithout29February() {
        List<Integer> leap = found(4, 1, 229, 0, 0, 0, LAST);
        due(25, leap.size());
        for (int k = 0; k < 25; k++) {
            due(date(2000 + 4 * k, 2, 29), leap.get(k));
        }
        due(List.of(), found(4, 4, 229, 0, 366, 0, LAST));
        dueDays(List.of(), 4, 1, 229, 0, 366, 366 + 57, 366 + 60);
        // Nor is any other DAY a HOLIDAY in those years, or before the first one.
        Daywall w = new Daywall();
        w.holiday(4, 229, 0);
        for (int day : new int[] {0, 57, 58, 60, 366, 366 + 57, 366 + 58, 366 + 59}) {
            due(0, w.ofDay(day, 7));
        }
        due(1, w.ofDay(59, 7));
        // A of 228 is 28 February in each year, whatever B is.
        due(List.of(58, 366 + 58), found(4, 1, 228, 1, 0, 0, 600));
        due(List.of(60, 366 + 59), found(4, 1, 301, 1, 0, 0, 600));
    }

    @Says(at = SERIES, value = "28 February, if B is 1. (B is 0 or 1.)")
    static void in28FebruaryOfOtherYears() {
        List<Integer> all = found(4, 1, 229, 1, 0, 0, LAST);
        due(100, all.size());
        for (int k = 0; k < 100; k++) {
            due(date(2000 + k, 3, 1) - 1, all.get(k));
        }
        dueDays(List.of(366 + 58), 4, 1, 229, 1, 366, 366 + 57, 366 + 60);
        dueDays(List.of(59), 4, 1, 229, 1, 0, 57, 61);
        bounds(ARGUMENT, NOTHING, 0, 1, (w, x) -> w.series(4, 1, 229, x, 0));
        bounds(ARGUMENT, NOTHING, 0, 1, (w, x) -> w.series(4, 1, 1231, x, 0));
    }

    @Says(at = SERIES, value = "FORM 5 (easter): it is the DAY (EASTER of its year) + A (A -80 to 240). B is 0.")
    static void formEaster() {
        bounds(ARGUMENT, NOTHING, -80, 240, (w, x) -> w.series(5, 1, x, 0, 0));
        bounds(ARGUMENT, NOTHING, 0, 0, (w, x) -> w.series(5, 1, 0, x, 0));
        for (int a : new int[] {-80, -79, -1, 0, 1, 239, 240}) {
            Daywall w = new Daywall();
            List<Integer> due = new ArrayList<>();
            for (int year = 2000; year <= 2099; year++) {
                due.add(w.easter(year) + a);
            }
            due(due, found(5, 1, a, 0, 0, 0, LAST));
        }
        // Each year's, asked by itself: it is that of the DAY's own year.
        for (int a : new int[] {-80, 0, 240}) {
            for (int year = 2000; year <= 2099; year++) {
                Daywall w = new Daywall();
                w.series(5, 1, a, 0, 0);
                int day = w.easter(year) + a;
                due(1, w.on(0, day));
                due(0, w.on(0, day - 1) + w.on(0, day + 1));
            }
        }
        // 23 April 2000 is DAY 113; the latest one, + 240, is 21 December 2038.
        dueDays(List.of(33), 5, 1, -80, 0, 0, 30, 36);
        dueDays(List.of(353), 5, 1, 240, 0, 0, 350, 356);
        dueDays(List.of(date(2038, 12, 21)), 5, 1, 240, 0, date(2038, 1, 1), date(2038, 12, 19), date(2038, 12, 23));
    }

    // ---- RULE DAYS, PERIOD, EXCEPTIONS, OCCURRENCES

    @Says(at = SERIES, value = "RULE DAYS: the DAYS of the RULE from START to LAST.")
    static void ruleDays() {
        Daywall w = new Daywall();
        w.series(0, 5, 0, 0, 10);
        w.until(0, 20);
        int[] on = {0, 0, 1, 0, 1, 0, 1, 0, 0};
        int[] days = {5, 9, 10, 11, 15, 19, 20, 21, 25};
        for (int k = 0; k < days.length; k++) {
            due(on[k], w.on(0, days[k]));
        }
        due(3, w.many(0, 0, 4000));
        w.until(0, 19);
        due(0, w.on(0, 20));
        due(15, w.next(0, LAST, true));
        w.until(0, 10);
        due(1, w.many(0, 0, 4000));
        due(10, w.kth(0, 0));
        w.series(0, 1, 0, 0, LAST);
        due(1, w.many(1, LAST - 4000, LAST));
        due(1, w.on(1, LAST));
    }

    private static int periodByWords(int form, int every) {
        BigInteger e = BigInteger.valueOf(every);
        switch (form) {
            case 0:
                return every;
            case 1:
                return 7 * every;
            case 2:
            case 3:
                return 10227 * every / e.gcd(BigInteger.valueOf(336)).intValue();
            case 4:
                return 10227 * every / e.gcd(BigInteger.valueOf(28)).intValue();
            default:
                return 36525;
        }
    }

    private static int commonByWords(int one, int other) {
        int gcd = BigInteger.valueOf(one).gcd(BigInteger.valueOf(other)).intValue();
        return (int) Math.min(36525, (long) one / gcd * other);
    }

    private static int[] ofForm(int form) {
        int[][] valid = {{0, 0}, {1, 0}, {1, 0}, {1, 1}, {101, 0}, {0, 0}};
        return valid[form];
    }

    @Says(at = SERIES, value = "The PERIOD of a SERIES: FORM 0 EVERY, 1 7 * EVERY, 2 and 3 10227 * EVERY / (the greatest divisor of"
        + " EVERY and 336), 4 10227 * EVERY / (that of EVERY and 28), 5 36525;")
    static void periods() {
        for (int form = 0; form <= 5; form++) {
            for (int every = 1; every <= 60; every++) {
                Daywall w = new Daywall();
                w.series(form, every, ofForm(form)[0], ofForm(form)[1], 0);
                w.series(0, 1, 0, 0, 0);
                due(Math.min(36525, periodByWords(form, every)), w.period(0, 0));
                due(Math.min(36525, periodByWords(form, every)), w.period(0, 1));
            }
        }
    }

    @Says(at = SERIES, value = "of two SERIES: the least common multiple of both, but 36525 at most.")
    static void periodsOfTwo() {
        for (int form = 0; form <= 5; form++) {
            for (int other = 0; other <= 5; other++) {
                for (int every = 1; every <= 60; every++) {
                    Daywall w = new Daywall();
                    w.series(form, every, ofForm(form)[0], ofForm(form)[1], 0);
                    for (int with : new int[] {1, 2, 7, 12, 28, 49, 59, 60}) {
                        w.series(other, with, ofForm(other)[0], ofForm(other)[1], 9);
                        due(commonByWords(periodByWords(form, every), periodByWords(other, with)), w.period(0, 1));
                        due(w.period(0, 1), w.period(1, 0));
                        w.drop(1);
                    }
                }
            }
        }
    }

    @Says(at = SERIES, value = "(28 years are 10227 days, and in a span of the WALL all comes again after them.)")
    static void allComesAgain() {
        int[][] rules = {{2, 31, 0}, {2, -31, 1}, {3, 17, 8}, {4, 229, 0}, {4, 229, 1}};
        for (int[] rule : rules) {
            List<Integer> early = found(rule[0], 1, rule[1], rule[2], 0, 0, 1500);
            List<Integer> late = found(rule[0], 1, rule[1], rule[2], 0, 10227, 10227 + 1500);
            due(early.size(), late.size());
            for (int k = 0; k < early.size() && k < late.size(); k++) {
                due(early.get(k) + 10227, late.get(k));
            }
        }
        due(date(2028, 1, 1), 10227);
    }

    @Says(at = SERIES, value = "An EXCEPTION is at a RULE DAY (one at most; 12 of a SERIES):")
    static void twelveExceptions() {
        Steps full = w -> {
            exceptionsOfTheFirst(w, 12);
            w.strike(1, 0);
        };
        refused(STATE, full, w -> w.strike(0, 12));
        refused(STATE, full, w -> w.move(0, 12, 12, 0));
        refused(STATE, full, w -> w.strike(0, 0));
        Daywall w = made(full);
        // Another SERIES has its own twelve; one that is taken away makes room for one.
        for (int k = 2; k <= 12; k++) {
            due(k, w.strike(1, k));
        }
        due(11, w.mend(0, 11));
        due(12, w.move(0, 40, 40, 0));
        due(24, w.count(5));
        Steps one = x -> {
            x.series(0, 2, 0, 0, 0);
            x.strike(0, 2);
            x.move(0, 4, 5, 0);
        };
        for (int day : new int[] {2, 4, 1, 3, 5}) {
            refused(STATE, one, x -> x.strike(0, day));
            refused(STATE, one, x -> x.move(0, day, day, 0));
        }
    }

    /** Two SERIES, the first with so many EXCEPTIONS. */
    private static void exceptionsOfTheFirst(Daywall w, int count) {
        w.series(0, 1, 0, 0, 0);
        w.series(0, 1, 0, 0, 0);
        for (int k = 0; k < count; k++) {
            if (k % 2 == 0) {
                w.strike(0, k);
            } else {
                w.move(0, k, 20 + k, 0);
            }
        }
    }

    @Says(at = SERIES, value = "it is STRUCK, or MOVED to another TIME (or the same).")
    static void struckOrMoved() {
        Daywall w = new Daywall();
        w.series(0, 10, 0, 0, 0);
        w.strike(0, 0);
        due(2, w.on(0, 0));
        due("", w.agenda(0, 9));
        w.move(0, 10, 10, 540);
        due(3 + 8, w.on(0, 10));
        due(time(10, 540) + "s0", w.agenda(10, 19));
        w.move(0, 20, 20, 0);
        due(time(20, 0) + "s0", w.agenda(20, 29));
        // Before START, after LAST, on another RULE DAY, and on the wall's first and last DAY.
        w.move(0, 30, 0, 0);
        due(8 + 2, w.on(0, 0));
        w.move(0, 40, LAST, 1380);
        due(8, w.on(0, LAST));
        w.move(0, 50, 60, 540);
        due(time(60, 540) + "s0 " + time(60, 540) + "s0", w.agenda(60, 60));
        w.until(0, 60);
        due(8, w.on(0, LAST));
    }

    @Says(at = SERIES, value = "An OCCURRENCE: each RULE DAY without an EXCEPTION, at its MINUTE, but not on a HOLIDAY, if the SERIES SKIPS;")
    static void occurrences() {
        Daywall w = new Daywall();
        w.series(0, 1, 0, 0, 1);
        w.time(0, 0, 1440);
        w.until(0, 5);
        w.strike(0, 3);
        due("1440s0 2880s0 5760s0 7200s0", w.agenda(0, 9));
        w.holiday(4, 102, 0);
        w.holiday(4, 106, 0);
        due("1440s0 2880s0 5760s0 7200s0", w.agenda(0, 9));
        w.skips(0, true);
        due("2880s0 5760s0", w.agenda(0, 9));
        due(0, w.busy(0, 1));
        due(1440, w.busy(0, 2));
        due(4, w.on(0, 1));
        due(4, w.on(0, 5));
        w.mend(0, 3);
        due("2880s0 4320s0 5760s0", w.agenda(0, 9));
        w.time(0, 1439, 1);
        due("4319s0 5759s0 7199s0", w.agenda(0, 9));
    }

    @Says(at = SERIES, value = "and each MOVED one, at its TIME (of a HOLIDAY, too).")
    static void movedOccurrences() {
        Daywall w = new Daywall();
        w.holiday(4, 103, 0);
        w.holiday(4, 105, 0);
        w.series(0, 1, 0, 0, 0);
        w.until(0, 6);
        w.skips(0, true);
        // Of a HOLIDAY, to a HOLIDAY, from one to the other.
        w.move(0, 2, 2, 30);
        w.move(0, 3, 4, 40);
        w.move(0, 4, 2, 50);
        due("540s0 1980s0 2910s0 2930s0 5800s0 7740s0 9180s0", w.agenda(0, 13));
        due(3 + 16, w.on(0, 2));
        due(3, w.on(0, 3));
        due(3 + 8, w.on(0, 4));
        due(80, w.busy(0, 2));
    }

    @Says(at = SERIES, value = "It is as long as LENGTH.")
    static void occurrencesAreAsLongAsLength() {
        Daywall w = new Daywall();
        w.series(0, 1, 0, 0, 0);
        w.move(0, 1, 2, 0);
        for (int length : new int[] {1, 2, 59, 540}) {
            w.time(0, 600, length);
            due(length, w.busy(0, 0));
            due(2 * length, w.busy(0, 2));
            due("540-600" + (600 + length < 1020 ? " " + (600 + length) + "-1020" : ""), w.free(1, 0));
        }
        w.time(0, 0, 1440);
        due(1440, w.busy(0, 0));
        w.time(0, 1439, 1);
        due(1, w.busy(0, 0));
    }

    public static void main(String[] args) {
        run(EdgeSeriesTest.class);
    }
}
