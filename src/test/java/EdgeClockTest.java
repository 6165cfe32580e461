import java.util.ArrayList;
import java.util.List;

/** The edges of the Description's part 5 as to the CLOCK, ZONES and TASKS, and of the promises 47 to 53. */
public final class EdgeClockTest extends Edges {
    private static final String CLOCK = "5. Clock, zones, tasks, notes";

    /** Each DAY at 540, rung at its TIME. */
    private static void daily(Daywall w) {
        w.series(0, 1, 0, 0, 0);
        w.remind(0, 0);
    }

    /** A wall with its CLOCK so many minutes ahead of its last one: far more calls than an object is promised for. */
    private static Daywall nearTheEnd(int left) {
        Daywall w = new Daywall();
        int last = 36525 * 1440 - 1;
        while (w.count(6) + 20160 <= last - left) {
            w.tick(20160);
        }
        if (w.count(6) < last - left) {
            w.tick(last - left - w.count(6));
        }
        return w;
    }

    // ---- the CLOCK

    @Says(at = CLOCK, value = "The CLOCK has a TIME, 0 at first.")
    static void clockAtFirst() {
        Daywall w = new Daywall();
        due(0, w.count(6));
        w.tick(1);
        due(1, w.count(6));
        w.tick(1438);
        w.tick(1);
        due(1440, w.count(6));
    }

    @Says(at = CLOCK, value = "A RING: of each SERIES with a REMIND, for each OCCURRENCE whose TIME less REMIND is after the CLOCK before"
        + " and not after the CLOCK then,")
    static void afterTheClockBeforeAndNotAfterTheClockThen() {
        for (int remind : new int[] {0, 1, 60, 539}) {
            Daywall w = new Daywall();
            daily(w);
            w.remind(0, remind);
            int at = 540 - remind;
            if (at > 1) {
                due(0, w.tick(at - 1));
            }
            due(1, w.tick(1));
            due(at + "s0", w.rung());
            due(0, w.tick(1439));
            due(1, w.tick(1));
            due(1, w.tick(1440));
            due(at + "s0 " + (at + 1440) + "s0 " + (at + 2880) + "s0", w.rung());
        }
        // At the CLOCK before it is too late.
        Daywall w = new Daywall();
        w.series(0, 1, 0, 0, 0);
        w.tick(540);
        w.remind(0, 0);
        due(0, w.tick(1439));
        due(1, w.tick(1));
        // A whole DAY ahead, over midnight, and a MOVED one by the minute.
        Daywall v = new Daywall();
        v.series(0, 60, 0, 0, 1);
        v.remind(0, 1440);
        v.series(0, 60, 0, 0, 30);
        v.remind(1, 30);
        v.move(1, 30, 1, 10);
        due(0, v.tick(539));
        due(1, v.tick(1));
        due(0, v.tick(1420 - 541));
        due(1, v.tick(1));
        due("540s0 1420s1", v.rung());
        // A MOVED one whose time is the CLOCK's is too late, a minute on it is not.
        v.move(1, 90, 1, 10);
        due(0, v.tick(1));
        v.move(1, 150, 1, 12);
        due(1, v.tick(1));
        // STRUCK ones, and those on a HOLIDAY that is SKIPPED, do not ring; nor does a SERIES without REMIND.
        Daywall u = new Daywall();
        daily(u);
        u.skips(0, true);
        u.holiday(4, 102, 0);
        u.strike(0, 2);
        u.until(0, 4);
        u.series(0, 1, 0, 0, 0);
        due(3, u.tick(20160));
        due("540s0 4860s0 6300s0", u.rung());
    }

    @Says(at = CLOCK, value = "if its RULE DAY has not rung yet (it has then, for ever;")
    static void ringsOnceForEver() {
        // DAY 0 has rung; whatever is told of it, it does not ring again, though DAY 1, which has not, would.
        Steps rung = w -> {
            daily(w);
            w.tick(600);
        };
        Steps[] changes = {w -> w.time(0, 700, 60), w -> w.move(0, 0, 0, 700), w -> {
            w.strike(0, 0);
            w.mend(0, 0);
            w.move(0, 0, 0, 700);
        }, w -> {
            w.remind(0, -1);
            w.remind(0, 1);
            w.move(0, 0, 0, 700);
        }, w -> {
            w.cut(0, 1);
            w.move(0, 0, 0, 700);
        }, w -> {
            w.cut(0, 1);
            w.join(0, 1);
            w.move(0, 0, 0, 700);
        }, w -> {
            w.until(0, 0);
            w.move(0, 0, 0, 700);
        }};
        for (Steps change : changes) {
            Daywall w = made(rung);
            change.on(w);
            due(0, w.tick(800));
            due("540s0", w.rung());
        }
        Daywall w = made(rung);
        w.move(0, 1, 0, 700);
        due(1, w.tick(100));
        w.mend(0, 1);
        due(0, w.tick(1439 - 700 + 600));
        // One that rang ahead, before it was shortened away, has rung when LAST is later again.
        Daywall v = made(rung);
        v.tick(1440);
        v.until(0, 0);
        v.until(0, LAST);
        v.move(0, 1, 1, 900);
        due(0, v.tick(400));
        // One whose TIME went by without a REMIND has not rung.
        Daywall u = new Daywall();
        u.series(0, 1, 0, 0, 0);
        u.tick(600);
        u.remind(0, 0);
        u.move(0, 0, 0, 700);
        due(1, u.tick(100));
        // Of several EXCEPTIONS it is the one that rings that has rung, not another: DAY 5 has, 3 and 4 have not.
        Daywall s = made(rung);
        s.move(0, 3, 40, 0);
        s.strike(0, 4);
        s.move(0, 5, 0, 700);
        due(1, s.tick(100));
        s.mend(0, 5);
        s.mend(0, 4);
        s.mend(0, 3);
        due(5, s.tick(6 * 1440));
        due("540s0 700s0 1980s0 3420s0 4860s0 6300s0 9180s0", s.rung());
        // Of the same DAY each SERIES rings by itself.
        Daywall t = made(rung);
        t.copy(0);
        t.remind(1, 0);
        t.move(0, 0, 0, 700);
        t.move(1, 0, 0, 700);
        due(1, t.tick(100));
        due("540s0 700s1", t.rung());
    }

    @Says(at = CLOCK, value = "one whose time would be before minute 1 of DAY 0 never rings).")
    static void neverBeforeMinuteOne() {
        int[][] due = {{539, 1}, {540, 0}, {541, 0}, {1440, 0}};
        for (int[] d : due) {
            Daywall w = new Daywall();
            w.series(0, 60, 0, 0, 0);
            w.remind(0, d[0]);
            due(d[1], w.tick(1));
            due(0, w.tick(20160));
            due(d[1] == 1 ? "1s0" : "", w.rung());
        }
        Daywall w = new Daywall();
        w.series(0, 60, 0, 0, 60);
        w.remind(0, 0);
        w.move(0, 60, 0, 0);
        w.move(0, 120, 0, 1);
        due(1, w.tick(20160));
        due("1s0", w.rung());
        // DAY 1 at 0 with REMIND 1440 would be at minute 0, at 1 at minute 1.
        for (int minute = 0; minute <= 1; minute++) {
            Daywall v = new Daywall();
            v.series(0, 60, 0, 0, 1);
            v.time(0, minute, 1);
            v.remind(0, 1440);
            due(minute, v.tick(20160));
        }
    }

    @Says(at = CLOCK, value = "RINGS are by that time, then by number of the SERIES, then by RULE DAY;")
    static void orderOfRings() {
        Daywall w = new Daywall();
        for (int k = 0; k < 3; k++) {
            w.series(0, 60, 0, 0, 0);
        }
        w.remind(0, 10);
        w.remind(1, 0);
        w.remind(2, 0);
        w.time(0, 550, 60);
        w.move(2, 120, 0, 540);
        w.move(2, 60, 0, 540);
        w.move(0, 60, 0, 549);
        w.move(1, 60, 0, 541);
        due(7, w.tick(600));
        due("539s0 540s0 540s1 540s2 540s2 540s2 541s1", w.rung());
        // Of one time and one SERIES by RULE DAY: the numbers are alike, so the kept ones tell nothing but that all rang.
        for (int k = 0; k < 3; k++) {
            due(0, w.tick(600));
        }
        due(7, w.count(7));
    }

    @Says(at = CLOCK, value = "the last 8 of all are kept.")
    static void lastEightAreKept() {
        Daywall w = new Daywall();
        daily(w);
        List<String> rings = new ArrayList<>();
        for (int day = 0; day < 20; day++) {
            due(1, w.tick(1440));
            rings.add(time(day, 540) + "s0");
            due(String.join(" ", rings.subList(Math.max(0, rings.size() - 8), rings.size())), w.rung());
            due(rings.size(), w.count(7));
        }
        // More than 8 at once, the last of them of the last SERIES.
        Daywall v = new Daywall();
        for (int k = 0; k < 10; k++) {
            v.series(0, 60, 0, 0, 0);
            v.remind(k, 0);
        }
        due(10, v.tick(540));
        due("540s2 540s3 540s4 540s5 540s6 540s7 540s8 540s9", v.rung());
        due(10, v.count(7));
    }

    // ---- 47. tick, 48. rung

    @Says(at = "Promise 47", value = {"The CLOCK goes on.", "minutes: by how many, 1 to 20160"})
    static void clockGoesOn() {
        Daywall w = new Daywall();
        int now = 0;
        for (int minutes : new int[] {1, 20160, 2, 20159, 1440}) {
            due(0, w.tick(minutes));
            now += minutes;
            due(now, w.count(6));
        }
    }

    @Says(at = "Promise 47", value = "Returns how many RINGS there were.")
    static void howManyRings() {
        // As many as there can be: 10 SERIES, each on 14 DAYS, and 12 MOVED ones of each.
        Daywall w = new Daywall();
        for (int k = 0; k < 10; k++) {
            w.series(0, 1, 0, 0, 0);
            w.remind(k, 0);
            for (int n = 0; n < 12; n++) {
                w.move(k, 100 + n, 13, 1 + n);
            }
        }
        due(10 * (14 + 12), w.tick(20160));
        due(260, w.count(7));
        due(0, w.tick(539));
        due(10, w.tick(1));
        due(270, w.count(7));
        // None, one, and the fourteen of the longest time, whatever minute it begins at.
        for (int minute : new int[] {1, 539, 540, 541, 1439}) {
            Daywall v = new Daywall();
            daily(v);
            due(minute < 540 ? 0 : 1, v.tick(minute));
            due(14, v.tick(20160));
        }
    }

    @Says(at = "Promise 47", value = "Throws IllegalArgumentException if minutes is not in its bounds")
    static void refusesMinutes() {
        bounds(ARGUMENT, Edges::lived, 1, 20160, (w, x) -> w.tick(x));
        bounds(ARGUMENT, NOTHING, 1, 20160, (w, x) -> w.tick(x));
    }

    /** The wall's end is 52595999 minutes ahead, so no object gets there in its 512 calls: it is tested all the same. */
    @Says(at = "Promise 47", value = "Throws IllegalStateException if it would be beyond the DAY 36524")
    static void refusesBeyondTheLastDay() {
        Daywall w = nearTheEnd(1);
        w.series(0, 1, 0, 0, LAST);
        w.time(0, 1439, 1);
        w.remind(0, 0);
        for (int minutes : new int[] {2, 3, 1440, 20160}) {
            beyond(w, STATE, minutes);
        }
        due(1, w.tick(1));
        due(time(LAST, 1439), w.count(6));
        due("52595999s0", w.rung());
        beyond(w, STATE, 1);
        beyond(w, STATE, 20160);
        // What is no number of minutes is named ahead of it.
        for (int minutes : new int[] {0, -1, 20161, LEAST, MOST}) {
            beyond(w, ARGUMENT, minutes);
        }
        due(time(LAST, 1439), w.count(6));
        due(1, w.count(7));
        // A whole DAY before the end, a fortnight, and a minute more.
        Daywall v = nearTheEnd(20160);
        beyond(nearTheEnd(20159), STATE, 20160);
        due(0, v.tick(20160));
        due(time(LAST, 1439), v.count(6));
        beyond(v, STATE, 1);
    }

    private static void beyond(Daywall w, Class<? extends RuntimeException> kind, int minutes) {
        long before = w.digest();
        try {
            due(kind, w.tick(minutes));
        } catch (RuntimeException e) {
            due(kind, e.getClass());
        }
        due(before, w.digest());
    }

    @Says(at = "Promise 48", value = {"Returns the last RINGS (8 at most), the oldest first,", "each as the TIME less REMIND, \"s\" and the number"
        + " that its SERIES had, with one blank between."})
    static void textOfRings() {
        Daywall w = new Daywall();
        due("", w.rung());
        w.series(0, 60, 0, 0, 0);
        w.series(0, 60, 0, 0, 0);
        w.series(0, 60, 0, 0, 0);
        w.remind(2, 539);
        w.remind(1, 0);
        due(1, w.tick(1));
        due("1s2", w.rung());
        due(1, w.tick(539));
        due("1s2 540s1", w.rung());
        // The numbers that they had: SERIES that are gone, or moved up, change nothing of it.
        w.drop(0);
        due("1s2 540s1", w.rung());
        w.remind(0, 5);
        w.drop(1);
        w.drop(0);
        due("1s2 540s1", w.rung());
        due(2, w.count(7));
    }

    // ---- ZONES

    @Says(at = CLOCK, value = "The ZONE of a person: from the TIME 0 on 0,")
    static void zoneAtFirst() {
        Daywall w = new Daywall();
        w.zone(0, 1, 60);
        for (int person = 0; person <= 5; person++) {
            due(0, w.local(person, 0, 0));
            due(1439, w.local(person, 0, 1439));
            due(person == 0 ? 1500 : 1440, w.local(person, 1, 0));
        }
    }

    @Says(at = CLOCK, value = "and told changes: from a DAY's first minute on, till the DAY of the next one, a told shift"
        + " (the same as before it, too);")
    static void changesOfZones() {
        Daywall w = new Daywall();
        // Told in another order than that of their DAYS; DAY 20 tells the same shift as before it.
        due(1, w.zone(3, 20, -30));
        due(2, w.zone(3, 10, -30));
        due(3, w.zone(3, 30, 840));
        due(4, w.zone(3, LAST, -720));
        int[][] shifts = {{0, 0}, {9, 0}, {10, -30}, {19, -30}, {20, -30}, {29, -30}, {30, 840}, {LAST - 1, 840}, {LAST, -720}};
        for (int[] s : shifts) {
            due(time(s[0], s[1]), w.local(3, s[0], 0));
            due(time(s[0], 1439 + s[1]), w.local(3, s[0], 1439));
            due(time(s[0], 0), w.local(2, s[0], 0));
        }
        // One for DAY 20 that is another, between two that are the same.
        due(4, w.zone(3, 20, 0));
        due(time(19, -30), w.local(3, 19, 0));
        due(time(20, 0), w.local(3, 20, 0));
        due(time(29, 0), w.local(3, 29, 0));
        // From DAY 0 on.
        due(1, w.zone(1, 0, 90));
        due(90, w.local(1, 0, 0));
        due(time(LAST, 90), w.local(1, LAST, 0));
    }

    private static void eightChanges(Daywall w) {
        for (int k = 0; k < 8; k++) {
            w.zone(2, 80 - 10 * k, 100 + k);
        }
    }

    @Says(at = CLOCK, value = "at most 8 of these.")
    static void eightChangesAtMost() {
        Daywall w = new Daywall();
        for (int k = 0; k < 8; k++) {
            due(k + 1, w.zone(2, 80 - 10 * k, 100 + k));
        }
        for (int day : new int[] {0, 9, 11, 79, 81, LAST}) {
            refused(STATE, EdgeClockTest::eightChanges, x -> x.zone(2, day, 5));
        }
        // All eight hold, and another person has his own.
        for (int k = 0; k < 8; k++) {
            due(time(80 - 10 * k, 100 + k), w.local(2, 80 - 10 * k, 0));
        }
        due(1, w.zone(1, 9, 5));
        due(1, w.zone(3, 9, 5));
    }

    @Says(at = CLOCK, value = "One that is told for a DAY that has one takes its place.")
    static void takesThePlace() {
        Daywall w = made(EdgeClockTest::eightChanges);
        for (int k = 0; k < 8; k++) {
            due(8, w.zone(2, 10 + 10 * k, -k));
            due(time(10 + 10 * k, -k), w.local(2, 10 + 10 * k, 0));
        }
        due(0, w.local(2, 0, 0));
        due(time(LAST, -7), w.local(2, LAST, 0));
    }

    @Says(at = "Promise 49", value = {"Changes the ZONE of a person.", "shift: by how many minutes, -720 to 840",
        "Returns how many changes that ZONE has then."})
    static void shiftsOfZones() {
        Daywall w = new Daywall();
        int changes = 0;
        for (int shift : new int[] {-720, 840, 0, 1, -1}) {
            changes++;
            due(changes, w.zone(5, changes, shift));
            due(time(changes, shift), w.local(5, changes, 0));
        }
        due(5, w.zone(5, 1, 0));
        due(1, w.zone(0, LAST, 1));
    }

    @Says(at = "Promise 49", value = "Throws IndexOutOfBoundsException if there is no such person, or the WALL has no such DAY")
    static void refusesPersonAndDayOfZone() {
        persons(Edges::lived, (w, x) -> w.zone(x, 3, 5));
        days(Edges::lived, (w, x) -> w.zone(0, x, 5));
        days(EdgeClockTest::eightChanges, (w, x) -> w.zone(1, x, 5));
    }

    @Says(at = "Promise 49", value = "Throws IllegalArgumentException if shift is not in its bounds")
    static void refusesShifts() {
        bounds(ARGUMENT, Edges::lived, -720, 840, (w, x) -> w.zone(0, 3, x));
        bounds(ARGUMENT, EdgeClockTest::eightChanges, -720, 840, (w, x) -> w.zone(2, 80, x));
    }

    @Says(at = "Promise 49", value = "Throws IllegalStateException if there would be more than 8 DAYS with one")
    static void refusesNinthDay() {
        let(w -> {
            for (int k = 0; k < 7; k++) {
                w.zone(2, k, 0);
            }
        }, w -> w.zone(2, 7, 0));
        refused(STATE, EdgeClockTest::eightChanges, w -> w.zone(2, 1, 0));
        refused(STATE, EdgeClockTest::eightChanges, w -> w.zone(2, LAST, 840));
        for (int k = 1; k <= 8; k++) {
            int day = 10 * k;
            let(EdgeClockTest::eightChanges, w -> w.zone(2, day, 0));
        }
    }

    @Says(at = "Promise 50", value = {"minute: a minute of it", "Returns that TIME + the shift that holds then."})
    static void localTimes() {
        Daywall w = new Daywall();
        w.zone(0, 0, -720);
        w.zone(1, LAST, 840);
        due(-720, w.local(0, 0, 0));
        due(719, w.local(0, 0, 1439));
        due(time(LAST, 1439) + 840, w.local(1, LAST, 1439));
        due(time(LAST - 1, 1439), w.local(1, LAST - 1, 1439));
        due(time(7, 7), w.local(5, 7, 7));
    }

    @Says(at = "Promise 50", value = "Throws IndexOutOfBoundsException if there is no such person, or the WALL has no such DAY")
    static void refusesPersonAndDayOfLocal() {
        persons(Edges::lived, (w, x) -> w.local(x, 3, 0));
        days(Edges::lived, (w, x) -> w.local(0, x, 0));
    }

    @Says(at = "Promise 50", value = "Throws IllegalArgumentException if minute is not 0 to 1439")
    static void refusesMinutesOfLocal() {
        bounds(ARGUMENT, Edges::lived, 0, 1439, (w, x) -> w.local(0, 3, x));
        bounds(ARGUMENT, NOTHING, 0, 1439, (w, x) -> w.local(5, LAST, x));
    }

    // ---- TASKS

    @Says(at = CLOCK, value = "TASKS, at most 8, numbered from 0: each lasts so many WORKDAYS and has NEEDS, other TASKS.")
    static void eightTasks() {
        Daywall w = new Daywall();
        for (int k = 0; k < 8; k++) {
            due(k, w.task(k + 1));
            due(k + 1, w.count(4));
        }
        refused(STATE, x -> tasks(x, 8), x -> x.task(1));
        for (int k = 0; k < 8; k++) {
            // From Monday, DAY 2, on: 1 to 5 WORKDAYS are a week, 6 to 8 go on after the week's end.
            due(k < 5 ? 2 + k : 4 + k, w.done(k, 2));
        }
        for (int k = 0; k < 7; k++) {
            due(k + 1, w.need(7, k));
        }
        // After number 6, on DAY 10, eight WORKDAYS more.
        due(20, w.done(7, 2));
    }

    @Says(at = CLOCK, value = "DONE from a DAY on: it begins on the first WORKDAY of that DAY or later;")
    static void beginsOnTheFirstWorkday() {
        Daywall w = new Daywall();
        w.task(1);
        w.task(2);
        int[][] due = {{0, 2, 3}, {1, 2, 3}, {2, 2, 3}, {3, 3, 4}, {5, 5, 6}, {6, 6, 9}, {7, 9, 10}, {8, 9, 10}};
        for (int[] d : due) {
            due(d[1], w.done(0, d[0]));
            due(d[2], w.done(1, d[0]));
        }
        w.holiday(4, 103, 0);
        w.holiday(4, 107, 0);
        due(3, w.done(0, 2));
        due(9, w.done(0, 6));
        due(10, w.done(1, 6));
    }

    @Says(at = CLOCK, value = "with NEEDS, on the first one after all these are DONE (from the same DAY on);")
    static void beginsAfterItsNeeds() {
        Daywall w = new Daywall();
        for (int length : new int[] {1, 3, 5, 1}) {
            w.task(length);
        }
        w.need(3, 0);
        due(3, w.done(3, 0));
        w.need(3, 1);
        due(5, w.done(3, 0));
        w.need(3, 2);
        due(9, w.done(3, 0));
        // From DAY 6, a Friday, on: number 2 is DONE on the next Thursday.
        due(12, w.done(2, 6));
        due(13, w.done(3, 6));
        // A need of a need, from the same DAY on.
        w.need(0, 2);
        due(13, w.done(0, 6));
        due(16, w.done(3, 6));
        // Told against the order of their numbers, all eight in one chain.
        Daywall v = new Daywall();
        tasks(v, 8);
        for (int k = 0; k < 7; k++) {
            v.need(k, k + 1);
        }
        int days = 0;
        for (int k = 7; k >= 0; k--) {
            days += k + 1;
            // The n-th WORKDAY from Monday, DAY 2, on.
            due(2 + (days - 1) / 5 * 7 + (days - 1) % 5, v.done(k, 2));
        }
    }

    @Says(at = CLOCK, value = "it is DONE on the last of its WORKDAYS; NONE if that is not on the WALL.")
    static void doneOnTheLastWorkday() {
        // The wall ends on a Thursday: from Monday, LAST - 3, on there are four WORKDAYS.
        for (int length = 1; length <= 20; length++) {
            Daywall w = new Daywall();
            w.task(length);
            due(length <= 4 ? LAST - 4 + length : -1, w.done(0, LAST - 3));
            due(length <= 4 ? LAST - 4 + length : -1, w.done(0, LAST - 5));
            due(length == 1 ? LAST : -1, w.done(0, LAST));
            due(length <= 5 ? (length == 1 ? LAST - 6 : LAST - 5 + length) : -1, w.done(0, LAST - 6));
        }
        Daywall w = new Daywall();
        w.task(1);
        w.task(1);
        w.task(1);
        w.need(1, 0);
        w.need(2, 1);
        due(LAST, w.done(0, LAST));
        due(-1, w.done(1, LAST));
        due(-1, w.done(2, LAST));
        due(LAST, w.done(1, LAST - 1));
        due(-1, w.done(2, LAST - 1));
        due(LAST, w.done(2, LAST - 2));
        w.holiday(4, 1231, 0);
        due(-1, w.done(0, LAST));
        due(LAST - 1, w.done(0, LAST - 1));
    }

    @Says(at = "Promise 51", value = {"A new TASK.", "length: how many WORKDAYS, 1 to 20", "Returns its number."})
    static void newTasks() {
        Daywall w = new Daywall();
        due(0, w.task(1));
        due(1, w.task(20));
        due(2, w.task(20));
        due(2, w.done(0, 2));
        due(27, w.done(1, 2));
    }

    @Says(at = "Promise 51", value = "Throws IllegalArgumentException if length is not in its bounds")
    static void refusesLengths() {
        bounds(ARGUMENT, Edges::lived, 1, 20, (w, x) -> w.task(x));
        bounds(ARGUMENT, NOTHING, 1, 20, (w, x) -> w.task(x));
    }

    @Says(at = "Promise 51", value = "Throws IllegalStateException if there are 8")
    static void refusesNinthTask() {
        let(w -> tasks(w, 7), w -> w.task(20));
        refused(STATE, w -> tasks(w, 8), w -> w.task(1));
        refused(STATE, w -> tasks(w, 8), w -> w.task(20));
    }

    @Says(at = "Promise 52", value = {"A TASK NEEDS another one.", "Returns how many it NEEDS itself then (not those through others)."})
    static void needsItself() {
        Daywall w = new Daywall();
        tasks(w, 8);
        for (int k = 1; k < 8; k++) {
            due(1, w.need(k, k - 1));
        }
        for (int k = 0; k < 6; k++) {
            due(k + 2, w.need(7, k));
        }
        due(2, w.need(6, 0));
    }

    @Says(at = "Promise 52", value = "Throws IndexOutOfBoundsException if there is no such TASK as task or other")
    static void refusesTasksOfNeed() {
        refused(INDEX, NOTHING, w -> w.need(0, 0));
        for (int count : new int[] {1, 3, 8}) {
            Steps steps = w -> tasks(w, count);
            for (int task : new int[] {-1, count, count + 1, 32, 33, LEAST, MOST}) {
                refused(INDEX, steps, w -> w.need(0, task));
                refused(INDEX, steps, w -> w.need(task, 0));
                refused(INDEX, steps, w -> w.need(task, task));
            }
        }
        let(w -> tasks(w, 8), w -> w.need(7, 0));
        let(w -> tasks(w, 8), w -> w.need(0, 7));
    }

    @Says(at = "Promise 52", value = "Throws IllegalStateException if it NEEDS that one itself (not only through others), or is that one,"
        + " or that one NEEDS it (also through others)")
    static void refusesNeeds() {
        // 7 needs 6, 6 needs 5 and so on: through others 7 needs all.
        Steps chain = w -> {
            tasks(w, 8);
            for (int k = 7; k >= 1; k--) {
                w.need(k, k - 1);
            }
        };
        for (int task = 0; task < 8; task++) {
            for (int other = 0; other < 8; other++) {
                int one = task;
                int two = other;
                if (other < task - 1) {
                    let(chain, w -> w.need(one, two));
                } else {
                    refused(STATE, chain, w -> w.need(one, two));
                }
            }
        }
        // Through any one of them, the first and the last too.
        for (int through = 0; through < 8; through++) {
            int middle = through;
            int from = (through + 3) % 8;
            int to = (through + 5) % 8;
            Steps three = w -> {
                tasks(w, 8);
                w.need(from, middle);
                w.need(middle, to);
            };
            refused(STATE, three, w -> w.need(to, from));
            let(three, w -> w.need(from, to));
        }
        // Through others in two ways, and told from the last to the first.
        Steps two = w -> {
            tasks(w, 5);
            w.need(3, 4);
            w.need(1, 3);
            w.need(2, 3);
            w.need(0, 2);
        };
        refused(STATE, two, w -> w.need(4, 0));
        refused(STATE, two, w -> w.need(4, 1));
        refused(STATE, two, w -> w.need(3, 0));
        let(two, w -> w.need(1, 0));
        let(two, w -> w.need(0, 1));
        let(two, w -> w.need(0, 4));
        for (int task = 0; task < 5; task++) {
            int one = task;
            refused(STATE, two, w -> w.need(one, one));
        }
    }

    @Says(at = "Promise 53", value = "Returns the DAY on which it is DONE, from that DAY on; NONE, if the WALL ends before.")
    static void doneDays() {
        Daywall w = new Daywall();
        w.task(20);
        w.task(20);
        w.need(1, 0);
        // Four weeks from Monday on end on the fourth Friday.
        due(2 + 25, w.done(0, 2));
        due(2 + 53, w.done(1, 2));
        due(LAST, w.done(0, date(2099, 12, 4)));
        due(-1, w.done(0, date(2099, 12, 5)));
        due(LAST, w.done(1, date(2099, 11, 6)));
        due(-1, w.done(1, date(2099, 11, 7)));
        due(-1, w.done(1, LAST));
    }

    @Says(at = "Promise 53", value = "Throws IndexOutOfBoundsException if there is no such TASK, or the WALL has no such DAY")
    static void refusesDone() {
        taskNumbers((w, x) -> w.done(x, 3));
        days(Edges::lived, (w, x) -> w.done(0, x));
        days(w -> tasks(w, 8), (w, x) -> w.done(7, x));
    }

    public static void main(String[] args) {
        run(EdgeClockTest.class);
    }
}
