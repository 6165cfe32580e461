import java.time.LocalDate;

/** The edges of the Description's beginning, of its part 1, and of the promises 1 to 8. */
public final class EdgeDaysTest extends Edges {
    private static final String ALL = "Description";
    private static final String DAYS = "1. Days";

    // ---- the Description's beginning

    @Says(at = ALL, value = "Whole numbers. X / Y is rounded down, X MOD Y is X - Y * (X / Y).")
    static void quotientsAreRoundedDown() {
        Daywall w = new Daywall();
        int[][] wholes = {{0, 0}, {11, date(2000, 12, 31)}, {12, date(2001, 1, 1)}, {23, date(2001, 12, 31)},
            {24, date(2002, 1, 1)}, {1199, LAST}};
        for (int[] whole : wholes) {
            due(whole[0] / 12, w.between(0, whole[1], 0));
            due(whole[0] % 12, w.between(0, whole[1], 1));
        }
    }

    @Says(at = ALL, value = "NONE is -1.")
    static void noneIsOneBelowNought() {
        Daywall w = new Daywall();
        w.series(4, 1, 101, 0, 1);
        w.until(0, 300);
        w.meet(0, -1, 0, 0, 1, 2);
        w.task(1);
        w.hours(0, 1);
        due(-1, w.months(0, -1));
        due(-1, w.kth(0, 0));
        due(-1, w.next(0, 0, false));
        due(-1, w.same(0, 0));
        due(-1, w.remind(0, -1));
        due(-1, w.ofMeeting(0, 2));
        due(-1, w.ofGuest(0, 1, 2));
        due(-1, w.propose(1, 0, 0, 2));
        due(-1, w.spoiled(0, 5, 1));
        w.holiday(4, 1231, 0);
        due(-1, w.done(0, LAST));
    }

    @Says(at = ALL, value = "A set is the sum of 2^k for each number k.")
    static void setsAreSumsOfPowers() {
        for (int k = 0; k <= 5; k++) {
            Daywall w = new Daywall();
            w.series(0, 1, 0, 0, 0);
            w.people(0, 1 << k);
            w.meet((k + 1) % 6, -1, 1, 0, 30, 1 << k);
            for (int person = 0; person <= 5; person++) {
                due(person == k ? 60 : 0, w.busy(person, 0));
            }
            due(90, w.busy(k, 1));
            due(0, w.ofGuest(0, k, 0));
        }
        Daywall w = new Daywall();
        w.series(0, 1, 0, 0, 0);
        w.people(0, 1 + 4 + 32);
        int[] busy = {60, 0, 60, 0, 0, 60};
        for (int person = 0; person <= 5; person++) {
            due(busy[person], w.busy(person, 0));
        }
    }

    @Says(at = ALL, value = "Of several the one with the smallest number, or the earliest, if nothing else is said.")
    static void earliestOfSeveral() {
        Daywall w = new Daywall();
        due(time(2, 540), w.propose(1, 0, 2, 60));
        w.meet(0, 0, 2, 700, 10, 0);
        w.meet(0, 0, 2, 600, 10, 0);
        due(-3, w.meet(0, 0, 2, 0, 1440, 0));
        w.series(0, 1, 0, 0, 5);
        w.series(0, 2, 0, 0, 4);
        due(5, w.same(0, 1));
    }

    // ---- 1. Days

    @Says(at = DAYS, value = "The WALL has the DAYS 0 (1 January 2000, a Saturday)")
    static void firstDay() {
        Daywall w = new Daywall();
        due(0, w.day(2000, 1, 1));
        due("2000-01-01", w.dayText(0));
        due(5, w.ofDay(0, 3));
        due(1, w.ofDay(0, 2));
        refused(INDEX, NOTHING, x -> x.dayText(-1));
    }

    @Says(at = DAYS, value = "to 36524 (31 December 2099)")
    static void lastDay() {
        Daywall w = new Daywall();
        due(36524, w.day(2099, 12, 31));
        due("2099-12-31", w.dayText(36524));
        due(3, w.ofDay(36524, 3));
        refused(INDEX, NOTHING, x -> x.dayText(36525));
    }

    @Says(at = DAYS, value = "each fourth year, 2000 among them, has 29 days in February (a LEAP year).")
    static void leapYears() {
        for (int year = 2000; year <= 2099; year++) {
            Daywall w = new Daywall();
            boolean isLeap = (year - 2000) % 4 == 0;
            int march = w.day(year, 3, 1);
            due(isLeap ? march - 1 : -9, w.day(year, 2, 29));
            due(isLeap ? march - 2 : march - 1, w.day(year, 2, 28));
            due(-9, w.day(year, 2, 30));
            due(isLeap ? 1 : 0, w.ofDay(march, 6));
            due(isLeap ? 29 : 28, w.ofDay(march - 1, 5));
            due(isLeap ? 366 : 365, w.ofDay(w.day(year, 12, 31), 4));
        }
    }

    @Says(at = DAYS, value = "WEEKDAYS: 0 Monday to 6 Sunday.")
    static void weekdays() {
        Daywall w = new Daywall();
        int[] weekdays = {5, 6, 0, 1, 2, 3, 4, 5, 6, 0};
        for (int day = 0; day < weekdays.length; day++) {
            due(weekdays[day], w.ofDay(day, 3));
        }
        // The set A of a weekly SERIES counts them in the same way: Monday is 1, Sunday 64.
        w.series(1, 1, 1, 0, 0);
        w.series(1, 1, 64, 0, 0);
        due(2, w.kth(0, 0));
        due(1, w.kth(1, 0));
    }

    @Says(at = DAYS, value = "The WEEK of a DAY: (DAY + 5) / 7.")
    static void weeksBeginOnMonday() {
        Daywall w = new Daywall();
        // DAY 0 and 1 are of WEEK 0, 2 to 8 of WEEK 1, 9 to 15 of WEEK 2.
        w.series(1, 2, 127, 0, 0);
        int[] due = {0, 1, 9, 10, 11, 12, 13, 14, 15, 23};
        for (int k = 0; k < due.length; k++) {
            due(due[k], w.kth(0, k));
        }
        w.series(1, 2, 127, 0, 8);
        due(8, w.kth(1, 0));
        due(16, w.kth(1, 1));
    }

    @Says(at = DAYS, value = "The MONTH of a DAY: 12 * (year - 2000) + the month of the year (1 to 12) - 1.")
    static void monthsGoOnOverTheYear() {
        Daywall w = new Daywall();
        w.series(2, 1, 1, 0, 0);
        w.series(2, 13, -1, 0, 0);
        for (int month = 0; month < 30; month++) {
            due(date(2000 + month / 12, month % 12 + 1, 1), w.kth(0, month));
        }
        due(date(2000, 1, 31), w.kth(1, 0));
        due(date(2001, 2, 28), w.kth(1, 1));
        due(date(2002, 3, 31), w.kth(1, 2));
        due(1, w.between(date(2000, 12, 31), date(2001, 1, 31), 1));
    }

    @Says(at = DAYS, value = "A TIME: DAY * 1440 + minute (0 to 1439).")
    static void times() {
        Daywall w = new Daywall();
        w.meet(0, -1, 0, 0, 1, 0);
        w.meet(0, -1, 0, 1439, 1, 0);
        w.meet(0, -1, 1, 0, 1, 0);
        w.meet(0, -1, LAST, 1439, 1, 0);
        due(0, w.ofMeeting(0, 3));
        due(1439, w.ofMeeting(1, 3));
        due(1440, w.ofMeeting(2, 3));
        due(52595999, w.ofMeeting(3, 3));
        due("0m0 1439m1", w.agenda(0, 0));
        due("1440m2", w.agenda(1, 1));
    }

    @Says(at = DAYS, value = "On by months: the same day of the month, so many months later (or before);")
    static void onByMonths() {
        Daywall w = new Daywall();
        due(date(2000, 2, 15), w.months(date(2000, 1, 15), 1));
        due(date(2001, 1, 15), w.months(date(2000, 12, 15), 1));
        due(date(2000, 12, 15), w.months(date(2001, 1, 15), -1));
        due(date(2000, 5, 29), w.months(date(2000, 2, 29), 3));
        due(date(2000, 3, 28), w.months(date(2001, 2, 28), -11));
    }

    @Says(at = DAYS, value = "if that month is too short, its last day.")
    static void onIntoShortMonths() {
        for (int by = 0; by < 48; by++) {
            Daywall w = new Daywall();
            for (int ofMonth = 28; ofMonth <= 31; ofMonth++) {
                LocalDate there = LocalDate.of(2000, 1, ofMonth).plusMonths(by);
                due(date(there.getYear(), there.getMonthValue(), there.getDayOfMonth()), w.months(ofMonth - 1, by));
                LocalDate back = LocalDate.of(2003, 12, ofMonth).minusMonths(by);
                due(date(back.getYear(), back.getMonthValue(), back.getDayOfMonth()), w.months(date(2003, 12, ofMonth), -by));
            }
        }
    }

    @Says(at = DAYS, value = {"EASTER of a year y: a is y MOD 19, h is (19 * a + 24) MOD 30, c is y - 2000,"
        + " l is (32 + 2 * (c / 4) - h - c MOD 4) MOD 7, m is (a + 11 * h + 22 * l) / 451, s is h + l - 7 * m + 114;"
        + " it is in the month s / 31, on its day s MOD 31 + 1."})
    static void easters() {
        Daywall w = new Daywall();
        for (int y = 2000; y <= 2099; y++) {
            int a = Math.floorMod(y, 19);
            int h = Math.floorMod(19 * a + 24, 30);
            int c = y - 2000;
            int l = Math.floorMod(32 + 2 * Math.floorDiv(c, 4) - h - Math.floorMod(c, 4), 7);
            int m = Math.floorDiv(a + 11 * h + 22 * l, 451);
            int s = h + l - 7 * m + 114;
            due(date(y, s / 31, s % 31 + 1), w.easter(y));
        }
        // The earliest and the latest one, in March and in April, and those with another m than 0.
        due(date(2008, 3, 23), w.easter(2008));
        due(date(2038, 4, 25), w.easter(2038));
        due(date(2049, 4, 18), w.easter(2049));
        due(date(2076, 4, 19), w.easter(2076));
    }

    @Says(at = DAYS, value = "HOLIDAYS: at most 6 rules of FORM 4 or 5 (2.),")
    static void sixHolidays() {
        for (int form = 4; form <= 5; form++) {
            int f = form;
            Daywall w = new Daywall();
            for (int k = 0; k < 6; k++) {
                due(k, w.holiday(f, 101 + k, 0));
            }
            refused(STATE, x -> sixHolidays(x, f), x -> x.holiday(f, 107, 0));
            refused(STATE, x -> sixHolidays(x, f), x -> x.holiday(9 - f, 107, 0));
        }
    }

    private static void sixHolidays(Daywall w, int form) {
        for (int k = 0; k < 6; k++) {
            w.holiday(form, 101 + k, 0);
        }
    }

    @Says(at = DAYS, value = "each every year from DAY 0 on.")
    static void holidaysOfEachYear() {
        for (int year = 2000; year <= 2099; year++) {
            Daywall w = new Daywall();
            w.holiday(4, 101, 0);
            w.holiday(5, -80, 0);
            w.holiday(5, 240, 0);
            w.holiday(4, 1231, 1);
            w.holiday(4, 229, 0);
            due(1, w.ofDay(date(year, 1, 1), 7));
            due(1, w.ofDay(date(year, 12, 31), 7));
            due(0, w.ofDay(date(year, 1, 2), 7));
            due(0, w.ofDay(date(year, 12, 30), 7));
            due(1, w.ofDay(w.easter(year) - 80, 7));
            due(1, w.ofDay(w.easter(year) + 240, 7));
            due(0, w.ofDay(w.easter(year) - 81, 7));
            due(0, w.ofDay(w.easter(year) + 241, 7));
            due(year % 4 == 0 ? 1 : 0, w.ofDay(date(year, 3, 1) - 1, 7));
        }
        // Told late, it is one of the DAYS before, too.
        Daywall w = new Daywall();
        w.tick(20160);
        w.holiday(4, 101, 0);
        due(1, w.ofDay(0, 7));
    }

    @Says(at = DAYS, value = "WORKDAYS: Monday to Friday, without HOLIDAYS.")
    static void workdays() {
        Daywall w = new Daywall();
        w.holiday(4, 105, 0);
        w.task(1);
        // Saturday and Sunday, Monday to Friday (DAY 2 to 6, of which 4 is a HOLIDAY), Saturday, Sunday, Monday.
        int[] workdays = {2, 2, 2, 3, 5, 5, 6, 9, 9, 9};
        for (int day = 0; day < workdays.length; day++) {
            due(workdays[day], w.done(0, day));
            due(time(workdays[day], 540), w.propose(1, 0, day, 60));
        }
    }

    // ---- promises 1 to 8

    @Says(at = "Promise 1", value = "Creates an empty wall.")
    static void emptyWall() {
        Daywall w = new Daywall();
        for (int what = 0; what <= 9; what++) {
            due(0, w.count(what));
        }
        due("", w.agenda(0, 13) + w.rung() + w.notes(0) + w.notes(1));
        due("540-1020", w.free(63, 0));
        due(0, w.travel(0));
        for (int person = 0; person <= 5; person++) {
            due(0, w.busy(person, 0));
            due(0, w.local(person, 0, 0));
            due(time(LAST, 1439), w.local(person, LAST, 1439));
            due(1, w.zone(person, 0, 0));
        }
        for (int day = 0; day < 366; day++) {
            due(0, w.ofDay(day, 7));
        }
        due(0, w.tick(20160));
        due(0, w.merge(false));
        due(true, w.isSound());
        refused(INDEX, NOTHING, x -> x.text(0));
        refused(INDEX, NOTHING, x -> x.ofMeeting(0, 0));
        refused(INDEX, NOTHING, x -> x.done(0, 0));
        refused(STATE, NOTHING, x -> x.erase(0, 0));
        refused(STATE, NOTHING, x -> x.erase(1, 9));
    }

    @Says(at = "Promise 1", value = "Creates an empty wall.")
    static void wallsShareNothing() {
        Daywall lived = made(Edges::lived);
        long before = lived.digest();
        due(new Daywall().digest(), made(NOTHING).digest());
        made(Edges::lived);
        due(before, lived.digest());
        Daywall w = new Daywall();
        due(0, w.count(0) + w.count(2) + w.count(6) + w.count(9) + w.travel(0) + w.merge(true));
        due(0, w.ofDay(5, 7));
    }

    @Says(at = "Promise 2", value = "year: 2000 to 2099")
    static void yearsOfDay() {
        Daywall w = new Daywall();
        for (int year = 2000; year <= 2099; year++) {
            due(date(year, 1, 1), w.day(year, 1, 1));
            due(date(year, 12, 31), w.day(year, 12, 31));
        }
    }

    @Says(at = "Promise 2", value = "Returns the DAY, or -9, if that year has no such one.")
    static void daysThatYearsHave() {
        for (int year : new int[] {2000, 2001, 2003, 2004, 2096, 2099}) {
            Daywall w = new Daywall();
            for (int month = 1; month <= 12; month++) {
                int length = LocalDate.of(year, month, 1).lengthOfMonth();
                due(date(year, month, 1), w.day(year, month, 1));
                due(date(year, month, length), w.day(year, month, length));
                for (int day : new int[] {length + 1, 0, -1, 32, 1000, LEAST, MOST}) {
                    due(-9, w.day(year, month, day));
                }
            }
            for (int month : new int[] {0, 13, -1, 25, -12, LEAST, MOST}) {
                due(-9, w.day(year, month, 1));
                due(-9, w.day(year, month, 31));
            }
        }
    }

    @Says(at = "Promise 2", value = "Throws IllegalArgumentException if year is not in its bounds")
    static void refusesYearsOfDay() {
        bounds(ARGUMENT, NOTHING, 2000, 2099, (w, x) -> w.day(x, 1, 1));
        bounds(ARGUMENT, Edges::lived, 2000, 2099, (w, x) -> w.day(x, 13, 32));
    }

    @Says(at = "Promise 3", value = {"what: 0 year, 1 month (1 to 12), 2 day of the month, 3 WEEKDAY, 4 day of the year (from 1),"
        + " 5 length of its month, 6 1 if its year is a LEAP year, otherwise 0, 7 1 if it is a HOLIDAY, otherwise 0",
        "Returns that."})
    static void whatOfDay() {
        int[] days = {0, 30, 31, 58, 59, 60, 365, 366, 366 + 58, 366 + 59, date(2003, 12, 31), date(2004, 1, 1),
            date(2004, 2, 29), date(2004, 12, 31), date(2099, 2, 28), LAST - 1, LAST};
        Daywall w = new Daywall();
        w.holiday(4, 1231, 0);
        for (int day : days) {
            LocalDate t = dateOf(day);
            due(t.getYear(), w.ofDay(day, 0));
            due(t.getMonthValue(), w.ofDay(day, 1));
            due(t.getDayOfMonth(), w.ofDay(day, 2));
            due(t.getDayOfWeek().getValue() - 1, w.ofDay(day, 3));
            due(t.getDayOfYear(), w.ofDay(day, 4));
            due(t.lengthOfMonth(), w.ofDay(day, 5));
            due(t.isLeapYear() ? 1 : 0, w.ofDay(day, 6));
            due(t.getMonthValue() == 12 && t.getDayOfMonth() == 31 ? 1 : 0, w.ofDay(day, 7));
        }
    }

    @Says(at = "Promise 3", value = "Throws IndexOutOfBoundsException if the WALL has no such DAY")
    static void refusesDaysOfOfDay() {
        for (int what = 0; what <= 7; what++) {
            int k = what;
            days(NOTHING, (w, x) -> w.ofDay(x, k));
        }
    }

    @Says(at = "Promise 3", value = "Throws IllegalArgumentException if what is not 0 to 7")
    static void refusesWhatOfOfDay() {
        bounds(ARGUMENT, NOTHING, 0, 7, (w, x) -> w.ofDay(0, x));
        bounds(ARGUMENT, Edges::lived, 0, 7, (w, x) -> w.ofDay(LAST, x));
    }

    @Says(at = "Promise 4", value = "Returns it as year, month, day: \"2024-02-29\" (four, two and two digits).")
    static void dayTexts() {
        Daywall w = new Daywall();
        due("2024-02-29", w.dayText(8825));
        int[] days = {0, 8, 9, 10, 30, 31, date(2000, 9, 30), date(2000, 10, 1), date(2009, 12, 31), date(2010, 1, 1),
            date(2099, 12, 9), LAST};
        for (int day : days) {
            due(dateOf(day).toString(), w.dayText(day));
        }
    }

    @Says(at = "Promise 4", value = "Throws IndexOutOfBoundsException if the WALL has no such DAY")
    static void refusesDaysOfDayText() {
        days(NOTHING, (w, x) -> w.dayText(x));
    }

    @Says(at = "Promise 5", value = "by: -1200 to 1200")
    static void bysOfMonths() {
        Daywall w = new Daywall();
        due(-1, w.months(0, 1200));
        due(-1, w.months(LAST, 1200));
        due(-1, w.months(0, -1200));
        due(-1, w.months(LAST, -1200));
        due(date(2099, 12, 1), w.months(0, 1199));
        due(30, w.months(LAST, -1199));
        due(0, w.months(0, 0));
        due(LAST, w.months(LAST, 0));
    }

    @Says(at = "Promise 5", value = "Returns the DAY on by so many months; NONE, if the WALL has no such one.")
    static void monthsOverTheEnds() {
        Daywall w = new Daywall();
        due(-1, w.months(30, -1));
        due(0, w.months(31, -1));
        due(-1, w.months(31, -2));
        due(-1, w.months(date(2099, 12, 1), 1));
        due(date(2099, 12, 30), w.months(date(2099, 11, 30), 1));
        due(-1, w.months(date(2099, 11, 30), 2));
        due(LAST, w.months(date(2099, 10, 31), 2));
        due(date(2099, 11, 30), w.months(date(2099, 10, 31), 1));
    }

    @Says(at = "Promise 5", value = "Throws IndexOutOfBoundsException if the WALL has no such DAY")
    static void refusesDaysOfMonths() {
        days(NOTHING, (w, x) -> w.months(x, 0));
        days(NOTHING, (w, x) -> w.months(x, -1200));
    }

    @Says(at = "Promise 5", value = "Throws IllegalArgumentException if by is not in its bounds")
    static void refusesBysOfMonths() {
        bounds(ARGUMENT, NOTHING, -1200, 1200, (w, x) -> w.months(0, x));
        bounds(ARGUMENT, NOTHING, -1200, 1200, (w, x) -> w.months(LAST, x));
    }

    @Says(at = "Promise 6", value = "to: a later one, or the same")
    static void betweenTheSame() {
        Daywall w = new Daywall();
        for (int day : new int[] {0, 59, 60, LAST}) {
            for (int what = 0; what <= 2; what++) {
                due(0, w.between(day, day, what));
            }
        }
    }

    @Says(at = "Promise 6", value = {"what: with w, by how much the MONTH of to is greater than that of from, less 1 if to is"
        + " an earlier day of the month: 0 w / 12, 1 w MOD 12, 2 how many DAYS to is after the DAY that is from, on by w months",
        "Returns that."})
    static void whatBetween() {
        int[][] spans = {{0, LAST}, {30, 59}, {30, 60}, {30, 90}, {59, date(2001, 2, 28)}, {59, date(2001, 3, 1)},
            {59, date(2004, 2, 28)}, {59, date(2004, 2, 29)}, {date(2000, 12, 31), 366}, {date(2000, 12, 31), date(2001, 1, 30)},
            {date(2000, 12, 31), date(2001, 1, 31)}, {date(2001, 1, 31), date(2001, 2, 28)}, {date(2001, 1, 29), date(2001, 3, 28)},
            {date(2000, 5, 31), date(2001, 5, 30)}, {date(2000, 5, 31), date(2001, 5, 31)}, {LAST - 1, LAST}, {0, 1}, {1, 31}};
        Daywall w = new Daywall();
        for (int[] span : spans) {
            LocalDate from = dateOf(span[0]);
            LocalDate to = dateOf(span[1]);
            int months = 12 * (to.getYear() - from.getYear()) + to.getMonthValue() - from.getMonthValue();
            months -= to.getDayOfMonth() < from.getDayOfMonth() ? 1 : 0;
            LocalDate on = from.plusMonths(months);
            due(months / 12, w.between(span[0], span[1], 0));
            due(months % 12, w.between(span[0], span[1], 1));
            due(span[1] - date(on.getYear(), on.getMonthValue(), on.getDayOfMonth()), w.between(span[0], span[1], 2));
        }
        // From the last day of a long month to the last one of a short month no month has gone.
        due(0, w.between(30, 59, 1));
        due(29, w.between(30, 59, 2));
        due(1, w.between(30, 60, 1));
        due(1, w.between(30, 60, 2));
    }

    @Says(at = "Promise 6", value = "Throws IndexOutOfBoundsException if the WALL has no such DAY as from or to")
    static void refusesDaysOfBetween() {
        days(NOTHING, (w, x) -> w.between(x, LAST, 0));
        days(NOTHING, (w, x) -> w.between(0, x, 2));
        refused(INDEX, NOTHING, w -> w.between(-1, -1, 0));
        refused(INDEX, NOTHING, w -> w.between(LAST + 1, LAST + 1, 0));
    }

    @Says(at = "Promise 6", value = "Throws IllegalArgumentException if to is before from, or what is not 0 to 2")
    static void refusesArgumentsOfBetween() {
        bounds(ARGUMENT, NOTHING, 0, 2, (w, x) -> w.between(0, LAST, x));
        for (int what = 0; what <= 2; what++) {
            int k = what;
            refused(ARGUMENT, NOTHING, w -> w.between(1, 0, k));
            refused(ARGUMENT, NOTHING, w -> w.between(LAST, 0, k));
            refused(ARGUMENT, NOTHING, w -> w.between(LAST, LAST - 1, k));
        }
    }

    @Says(at = "Promise 7", value = {"year: 2000 to 2099", "Returns EASTER."})
    static void yearsOfEaster() {
        Daywall w = new Daywall();
        due(date(2000, 4, 23), w.easter(2000));
        due(date(2099, 4, 12), w.easter(2099));
        due(date(2001, 4, 15), w.easter(2001));
    }

    @Says(at = "Promise 7", value = "Throws IllegalArgumentException if year is not in its bounds")
    static void refusesYearsOfEaster() {
        bounds(ARGUMENT, NOTHING, 2000, 2099, (w, x) -> w.easter(x));
    }

    @Says(at = "Promise 8", value = {"Tells a HOLIDAY.", "form: 4 or 5"})
    static void formsOfHoliday() {
        Daywall w = new Daywall();
        w.holiday(4, 229, 1);
        w.holiday(5, 0, 0);
        for (int year = 2000; year <= 2099; year++) {
            int march = date(year, 3, 1);
            due(1, w.ofDay(march - 1, 7));
            due(0, w.ofDay(march - 2, 7));
            due(0, w.ofDay(march, 7));
            due(1, w.ofDay(w.easter(year), 7));
        }
    }

    @Says(at = "Promise 8", value = "Returns its number, from 0.")
    static void numbersOfHolidays() {
        Daywall w = new Daywall();
        for (int k = 0; k < 6; k++) {
            due(k, w.holiday(5, 240, 0));
            due(k + 1, w.count(1));
        }
    }

    @Says(at = "Promise 8", value = "Throws IllegalArgumentException if form, a or b is not in its bounds")
    static void refusesArgumentsOfHoliday() {
        bounds(ARGUMENT, NOTHING, 4, 5, (w, x) -> w.holiday(x, 101, 0));
        for (int form : new int[] {0, 1, 2, 3, 6}) {
            refused(ARGUMENT, NOTHING, w -> w.holiday(form, form == 0 ? 0 : 1, form == 3 ? 1 : 0));
        }
        bounds(ARGUMENT, NOTHING, -80, 240, (w, x) -> w.holiday(5, x, 0));
        bounds(ARGUMENT, NOTHING, 0, 0, (w, x) -> w.holiday(5, 1, x));
        bounds(ARGUMENT, NOTHING, 0, 1, (w, x) -> w.holiday(4, 101, x));
        for (int month = 1; month <= 12; month++) {
            int m = 100 * month;
            bounds(ARGUMENT, NOTHING, m + 1, m + LocalDate.of(2000, month, 1).lengthOfMonth(), (w, x) -> {
                // The bounds told here are those of one month: what is far off may be a date of another.
                return x > m - 10 && x < m + 90 ? w.holiday(4, x, 0) : w.holiday(4, 0, 0);
            });
        }
        for (int a : new int[] {0, 1, 31, -101, -1, 1301, 1331, 13, 10101, LEAST, MOST}) {
            refused(ARGUMENT, NOTHING, w -> w.holiday(4, a, 0));
        }
    }

    @Says(at = "Promise 8", value = "Throws IllegalStateException if there are 6")
    static void refusesSeventhHoliday() {
        let(w -> {
            for (int k = 0; k < 5; k++) {
                w.holiday(4, 101, 0);
            }
        }, w -> w.holiday(4, 101, 0));
        refused(STATE, w -> sixHolidays(w, 4), w -> w.holiday(4, 101, 0));
        refused(STATE, w -> sixHolidays(w, 5), w -> w.holiday(5, 1, 0));
    }

    public static void main(String[] args) {
        run(EdgeDaysTest.class);
    }
}
