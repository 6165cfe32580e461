/** The edges of the Description's part 4, and of the promises 42 to 46. */
public final class EdgeBusyTest extends Edges {
    private static final String BUSY = "4. Busy and free";

    private static void dueBusy(Daywall w, int day, int... due) {
        for (int person = 0; person <= 5; person++) {
            due(due[person], w.busy(person, day));
        }
    }

    // ---- 4. Busy and free

    @Says(at = BUSY, value = "HOURS: from a minute to another (540 to 1020 at first).")
    static void hoursAtFirst() {
        Daywall w = new Daywall();
        for (int day : new int[] {0, 2, LAST}) {
            due("540-1020", w.free(63, day));
        }
        due(time(2, 540), w.propose(1, 0, 2, 480));
        due(-1, w.propose(1, 0, 2, 481));
    }

    @Says(at = BUSY, value = "TRAVEL: 0 to 60 minutes (0 at first).")
    static void travelAtFirst() {
        Daywall w = new Daywall();
        w.meet(0, 0, 0, 600, 60, 0);
        due(60, w.busy(0, 0));
        due(0, w.travel(60));
        due(180, w.busy(0, 0));
        due(60, w.travel(1));
        due(62, w.busy(0, 0));
        due(1, w.travel(0));
        due(60, w.busy(0, 0));
    }

    @Says(at = BUSY, value = "Somebody is BUSY in the minutes of OCCURRENCES of SERIES with that one in the set,")
    static void busyInOccurrences() {
        for (int set = 1; set <= 63; set++) {
            Daywall w = new Daywall();
            w.series(0, 2, 0, 0, 0);
            w.people(0, set);
            for (int person = 0; person <= 5; person++) {
                due((set >> person & 1) == 1 ? 60 : 0, w.busy(person, 0));
                due(0, w.busy(person, 1));
            }
        }
        Daywall w = new Daywall();
        w.series(0, 1, 0, 0, 0);
        w.holiday(4, 103, 0);
        w.skips(0, true);
        w.until(0, 9);
        w.strike(0, 1);
        w.move(0, 3, 4, 0);
        w.move(0, 5, 6, 570);
        w.move(0, 7, 8, 540);
        w.move(0, 9, 20, 1380);
        int[][] due = {{0, 60}, {1, 0}, {2, 0}, {3, 0}, {4, 120}, {5, 0}, {6, 90}, {7, 0}, {8, 60}, {9, 0}, {10, 0}, {20, 60}};
        for (int[] d : due) {
            due(d[1], w.busy(0, d[0]));
        }
        // The first and the last minute of a DAY, and all of it.
        Daywall v = new Daywall();
        v.series(0, 1, 0, 0, 0);
        for (int[] span : new int[][] {{0, 1}, {1439, 1}, {0, 1440}, {1, 1439}}) {
            v.time(0, span[0], span[1]);
            due(span[1], v.busy(0, 0));
            due(span[1], v.busy(0, LAST));
        }
    }

    @Says(at = BUSY, value = "and of MEETINGS that STAND, of which that one is OWNER, or a GUEST whose ANSWER is not no;")
    static void busyInMeetings() {
        Daywall w = new Daywall();
        w.meet(3, -1, 1, 0, 1440, 55);
        dueBusy(w, 1, 1440, 1440, 1440, 1440, 1440, 1440);
        w.answer(0, 0, 0);
        w.answer(0, 1, 1);
        w.answer(0, 2, 2);
        w.answer(0, 4, 3);
        dueBusy(w, 1, 1440, 1440, 0, 1440, 1440, 1440);
        dueBusy(w, 0, 0, 0, 0, 0, 0, 0);
        dueBusy(w, 2, 0, 0, 0, 0, 0, 0);
        w.answer(0, 2, 3);
        due(1440, w.busy(2, 1));
        w.answer(0, 0, 2);
        due(0, w.busy(0, 1));
        // Of a CANCELLED one, and of one that he handed on, nobody is; and who is in no GUEST's place never was.
        w.meet(3, 0, 2, 600, 1, 1);
        dueBusy(w, 2, 1, 0, 0, 1, 0, 0);
        w.hand(1, 0, 5);
        dueBusy(w, 2, 0, 0, 0, 1, 0, 1);
        w.cancel(1);
        w.cancel(0);
        dueBusy(w, 2, 0, 0, 0, 0, 0, 0);
        dueBusy(w, 1, 0, 0, 0, 0, 0, 0);
    }

    @Says(at = BUSY, value = "if these have a ROOM, also in so many minutes as TRAVEL tells before and after them, in that DAY.")
    static void busyOnTheWay() {
        // At both ends of a DAY the way is cut short, and the DAYS beside have none of it.
        int[][] spans = {{0, 10, 70}, {1430, 10, 70}, {59, 1, 120}, {60, 1, 121}, {61, 1, 121}, {1379, 1, 121}, {1380, 1, 120}, {1439, 1, 61},
            {0, 1440, 1440}, {1, 1438, 1440}};
        for (int[] s : spans) {
            Daywall w = new Daywall();
            w.travel(60);
            w.meet(0, 0, 5, s[0], s[1], 2);
            dueBusy(w, 5, s[2], s[2], 0, 0, 0, 0);
            dueBusy(w, 4, 0, 0, 0, 0, 0, 0);
            dueBusy(w, 6, 0, 0, 0, 0, 0, 0);
        }
        // Without a ROOM, and to OCCURRENCES, there is no way.
        Daywall v = new Daywall();
        v.travel(60);
        v.meet(0, -1, 5, 600, 60, 0);
        v.series(0, 1, 0, 0, 0);
        v.people(0, 2);
        dueBusy(v, 5, 60, 60, 0, 0, 0, 0);
        // Who says no has no way, either.
        Daywall u = new Daywall();
        u.travel(60);
        u.meet(0, 0, 5, 600, 60, 6);
        u.answer(0, 1, 2);
        dueBusy(u, 5, 180, 0, 180, 0, 0, 0);
        // Each ROOM has one; ways that lie over one another count once; and one to a CANCELLED one is none.
        for (int room = 0; room <= 2; room++) {
            v.meet(2, room, 9, 600, 60, 0);
            v.meet(2, room, 9, 700, 60, 0);
        }
        due(60 + 160 + 60, v.busy(2, 9));
        for (int k = 1; k <= 6; k++) {
            v.cancel(k);
        }
        due(0, v.busy(2, 9));
    }

    @Says(at = BUSY, value = "in that DAY.")
    static void wayAtTheWallsEnds() {
        Daywall w = new Daywall();
        w.travel(60);
        w.meet(0, 0, 0, 0, 1, 0);
        w.meet(0, 0, LAST, 1439, 1, 0);
        due(61, w.busy(0, 0));
        due(61, w.busy(0, LAST));
        w.hours(0, 1440);
        due("61-1440", w.free(1, 0));
        due("0-1379", w.free(1, LAST));
    }

    @Says(at = BUSY, value = "FREE spans of some for a DAY: the longest spans of HOURS in which none of them is BUSY.")
    static void freeSpans() {
        Daywall w = new Daywall();
        w.meet(0, -1, 2, 600, 60, 0);
        w.meet(1, -1, 2, 660, 60, 0);
        w.meet(2, -1, 2, 0, 541, 0);
        w.meet(2, -1, 2, 1019, 400, 0);
        w.meet(3, -1, 2, 540, 480, 0);
        w.meet(4, -1, 2, 541, 478, 0);
        w.meet(5, -1, 2, 0, 540, 0);
        w.meet(5, -1, 2, 1020, 420, 0);
        due("540-600 660-1020", w.free(1, 2));
        due("540-660 720-1020", w.free(2, 2));
        // What ends where another begins leaves nothing between them.
        due("540-600 720-1020", w.free(3, 2));
        due("541-1019", w.free(4, 2));
        due("", w.free(8, 2));
        due("540-541 1019-1020", w.free(16, 2));
        due("540-1020", w.free(32, 2));
        due("", w.free(4 + 16, 2));
        due("541-600 720-1019", w.free(7, 2));
        due("", w.free(63, 2));
        // A single minute between two.
        w.meet(0, -1, 3, 540, 59, 0);
        w.meet(0, -1, 3, 600, 420, 0);
        due("599-600", w.free(1, 3));
    }

    @Says(at = BUSY, value = "FREE spans of some for a DAY: the longest spans of HOURS in which none of them is BUSY.")
    static void dayWithoutAMinuteLeft() {
        Daywall w = new Daywall();
        w.hours(0, 1440);
        w.meet(0, -1, 3, 0, 1440, 0);
        w.meet(1, -1, 3, 0, 720, 4);
        w.meet(1, -1, 3, 720, 720, 0);
        w.meet(2, -1, 3, 720, 719, 0);
        for (int people : new int[] {1, 2, 1 + 2, 1 + 4, 63}) {
            due("", w.free(people, 3));
        }
        due("1439-1440", w.free(4, 3));
        due("0-1440", w.free(8 + 16 + 32, 3));
        dueBusy(w, 3, 1440, 1440, 1439, 0, 0, 0);
        due(time(4, 0), w.propose(1, 0, 3, 1));
        due(time(4, 0), w.propose(2, 0, 3, 15));
        for (int hour = 0; hour < 24; hour++) {
            w.hours(60 * hour, 60 * hour + 1);
            due("", w.free(1, 3));
            due("", w.free(2, 3));
        }
    }

    // ---- 42. hours, 43. travel

    @Says(at = "Promise 42", value = {"Tells HOURS.", "to: till which one (without it)", "Returns how many minutes these are."})
    static void tellsHours() {
        Daywall w = new Daywall();
        int[][] hours = {{0, 1440}, {0, 1}, {1439, 1440}, {1438, 1440}, {539, 540}};
        for (int[] h : hours) {
            due(h[1] - h[0], w.hours(h[0], h[1]));
            due(h[0] + "-" + h[1], w.free(63, 0));
        }
        w.hours(600, 660);
        w.meet(0, -1, 0, 540, 60, 0);
        w.meet(0, -1, 0, 660, 60, 0);
        due("600-660", w.free(1, 0));
        due(120, w.busy(0, 0));
    }

    @Says(at = "Promise 42", value = "Throws IllegalArgumentException if from is not 0 to 1439, or to not from + 1 to 1440")
    static void refusesHours() {
        bounds(ARGUMENT, Edges::lived, 0, 1439, (w, x) -> w.hours(x, 1440));
        for (int from : new int[] {0, 1, 540, 1438, 1439}) {
            bounds(ARGUMENT, Edges::lived, from + 1, 1440, (w, x) -> w.hours(from, x));
        }
        bounds(ARGUMENT, Edges::lived, 0, 99, (w, x) -> w.hours(x, 100));
        bounds(ARGUMENT, Edges::lived, 0, 0, (w, x) -> w.hours(x, 1));
        refused(ARGUMENT, Edges::lived, w -> w.hours(1440, 1441));
        refused(ARGUMENT, Edges::lived, w -> w.hours(-1, 0));
        refused(ARGUMENT, Edges::lived, w -> w.hours(MOST, LEAST));
    }

    @Says(at = "Promise 43", value = {"Tells TRAVEL.", "minutes: 0 to 60", "Returns TRAVEL before."})
    static void tellsTravel() {
        Daywall w = new Daywall();
        w.meet(0, 0, 0, 600, 60, 0);
        int before = 0;
        for (int minutes : new int[] {60, 0, 1, 59, 60, 60, 0}) {
            due(before, w.travel(minutes));
            due(60 + 2 * minutes, w.busy(0, 0));
            before = minutes;
        }
    }

    @Says(at = "Promise 43", value = "Throws IllegalArgumentException if minutes is not in its bounds")
    static void refusesTravel() {
        bounds(ARGUMENT, Edges::lived, 0, 60, (w, x) -> w.travel(x));
    }

    // ---- 44. busy

    @Says(at = "Promise 44", value = "Returns in how many minutes of that DAY that one is BUSY.")
    static void busyMinutes() {
        Daywall w = new Daywall();
        // What lies over one another counts once, what is out of HOURS counts too.
        w.series(0, 1, 0, 0, 0);
        w.time(0, 0, 10);
        w.series(0, 1, 0, 0, 0);
        w.time(1, 5, 10);
        w.meet(0, -1, 3, 14, 2, 0);
        w.meet(0, -1, 3, 1430, 10, 0);
        due(26, w.busy(0, 3));
        due(15, w.busy(0, 2));
        due(0, w.busy(1, 3));
        w.hours(10, 11);
        due(26, w.busy(0, 3));
        w.meet(0, -1, 3, 0, 1440, 0);
        due(1440, w.busy(0, 3));
        due(15, w.busy(0, 4));
    }

    @Says(at = "Promise 44", value = "Throws IndexOutOfBoundsException if there is no such person, or the WALL has no such DAY")
    static void refusesBusy() {
        persons(Edges::lived, (w, x) -> w.busy(x, 3));
        for (int person = 0; person <= 5; person++) {
            int p = person;
            days(Edges::lived, (w, x) -> w.busy(p, x));
        }
    }

    // ---- 45. free

    @Says(at = "Promise 45", value = {"people: a set of PEOPLE", "Returns their FREE spans, each as its first minute, \"-\" and the minute after"
        + " its last, with one blank between (\"540-600 720-1020\")."})
    static void freeTexts() {
        Daywall w = new Daywall();
        w.hours(0, 1440);
        due("0-1440", w.free(1, 0));
        for (int k = 0; k < 24; k++) {
            w.meet(0, -1, 0, 60 * k + 1, 58, 32);
        }
        StringBuilder due = new StringBuilder("0-1");
        for (int k = 1; k < 24; k++) {
            due.append(' ').append(60 * k - 1).append('-').append(60 * k + 1);
        }
        due.append(" 1439-1440");
        for (int people : new int[] {1, 32, 33, 63, 3}) {
            due(due.toString(), w.free(people, 0));
        }
        due("0-1440", w.free(2 + 4 + 8 + 16, 0));
        w.hours(1, 59);
        due("", w.free(1, 0));
        w.hours(0, 60);
        due("0-1 59-60", w.free(1, 0));
        w.hours(720, 721);
        due("720-721", w.free(1, 0));
        w.hours(721, 722);
        due("", w.free(1, 0));
    }

    @Says(at = "Promise 45", value = "Throws IndexOutOfBoundsException if the WALL has no such DAY")
    static void refusesDaysOfFree() {
        days(Edges::lived, (w, x) -> w.free(1, x));
        days(NOTHING, (w, x) -> w.free(63, x));
    }

    @Says(at = "Promise 45", value = "Throws IllegalArgumentException if people is not 1 to 63")
    static void refusesPeopleOfFree() {
        bounds(ARGUMENT, Edges::lived, 1, 63, (w, x) -> w.free(x, 0));
    }

    // ---- 46. propose

    @Says(at = "Promise 46", value = "Returns of all TIMES on the WORKDAYS of day to day + 4 (of the WALL),")
    static void proposesOnWorkdays() {
        Daywall w = new Daywall();
        // DAY 0 and 1 are Saturday and Sunday; from DAY 5 on five DAYS are 5, 6 (7, 8 are none) and 9.
        due(time(2, 540), w.propose(1, 0, 0, 60));
        for (int day = 5; day <= 6; day++) {
            w.meet(0, -1, day, 0, 1440, 0);
        }
        due(time(9, 540), w.propose(1, 0, 5, 60));
        w.meet(0, -1, 9, 0, 1440, 0);
        due(-1, w.propose(1, 0, 5, 60));
        due(time(10, 540), w.propose(1, 0, 6, 60));
        due(time(4, 540), w.propose(1, 0, 4, 60));
        w.holiday(4, 105, 0);
        // DAY 4 is a HOLIDAY now, 5 and 6 are full, 7 and 8 are the week's end.
        due(-1, w.propose(1, 0, 4, 60));
        // The wall ends on a Thursday; the last one there is a WORKDAY, and no DAY after it is looked at.
        for (int day = LAST - 4; day <= LAST; day++) {
            due(time(day < LAST - 3 ? LAST - 3 : day, 540), w.propose(1, 0, day, 60));
        }
        for (int day = LAST - 3; day <= LAST; day++) {
            w.meet(0, -1, day, 540, day == LAST ? 465 : 480, 0);
        }
        due(time(LAST, 1005), w.propose(1, 0, LAST - 4, 15));
        due(-1, w.propose(1, 0, LAST - 4, 16));
        due(-1, w.propose(1, 0, LAST, 16));
    }

    @Says(at = "Promise 46", value = "at a multiple of 15 minutes, with so many minutes all in HOURS,")
    static void proposesInHours() {
        int[][] due = {{540, 1020, 480, 540}, {540, 1020, 481, -1}, {540, 1020, 1, 540}, {541, 1020, 60, 555}, {555, 1020, 60, 555},
            {554, 1020, 60, 555}, {556, 615, 45, 570}, {556, 615, 46, -1}, {0, 1440, 1440, 0}, {1, 1440, 1425, 15}, {1, 1440, 1426, -1},
            {0, 1, 1, 0}, {1, 2, 1, -1}, {1425, 1440, 15, 1425}, {1425, 1426, 1, 1425}, {1426, 1440, 1, -1}, {1439, 1440, 1, -1},
            {0, 1439, 1440, -1}};
        for (int[] d : due) {
            Daywall w = new Daywall();
            w.hours(d[0], d[1]);
            due(d[3] < 0 ? -1 : time(2, d[3]), w.propose(1, 0, 2, d[2]));
            due(d[3] < 0 ? -1 : time(3, d[3]), w.propose(63, 0, 3, d[2]));
        }
    }

    @Says(at = "Promise 46", value = "in which nobody who must is BUSY,")
    static void nobodyWhoMustIsBusy() {
        Daywall w = new Daywall();
        w.meet(0, -1, 2, 570, 30, 0);
        w.meet(5, -1, 2, 615, 405, 0);
        // 0 has 540 to 570 and from 600 on, 5 has 540 to 615.
        due(time(2, 540), w.propose(33, 0, 2, 30));
        due(time(3, 540), w.propose(33, 0, 2, 31));
        due(time(2, 600), w.propose(1, 0, 2, 31));
        due(time(2, 600), w.propose(1, 0, 2, 420));
        due(time(3, 540), w.propose(1, 0, 2, 421));
        due(time(2, 540), w.propose(32, 0, 2, 75));
        due(time(3, 540), w.propose(32, 0, 2, 76));
        // It is enough to be BUSY in the first or in the last minute.
        w.meet(1, -1, 2, 0, 541, 0);
        w.meet(1, -1, 2, 584, 1, 0);
        due(time(2, 555), w.propose(2, 0, 2, 29));
        due(time(2, 585), w.propose(2, 0, 2, 30));
        w.hours(540, 615);
        due(time(3, 540), w.propose(2, 0, 2, 31));
        // In the first and in the last minute of a DAY.
        w.hours(0, 1440);
        w.meet(3, -1, 2, 0, 1, 0);
        w.meet(4, -1, 2, 1439, 1, 0);
        due(time(2, 15), w.propose(8, 0, 2, 1425));
        due(time(3, 0), w.propose(8, 0, 2, 1426));
        due(time(2, 0), w.propose(16, 0, 2, 1439));
        due(time(3, 0), w.propose(16, 0, 2, 1440));
        due(time(2, 15), w.propose(4, 8, 2, 15));
    }

    @Says(at = "Promise 46", value = "that in which the fewest who may (and need not) are BUSY (in one minute of these or more);")
    static void fewestWhoMayAreBusy() {
        Daywall w = new Daywall();
        w.hours(540, 660);
        // At 540 two of those who may are BUSY, from 570 on one is, from 600 on two others, on DAY 3 all five.
        w.meet(1, -1, 2, 540, 30, 4);
        w.meet(3, -1, 2, 570, 30, 0);
        w.meet(4, -1, 2, 600, 60, 32);
        w.meet(1, -1, 3, 540, 120, 60);
        w.holiday(4, 105, 0);
        w.holiday(4, 106, 0);
        w.holiday(4, 107, 0);
        due(time(2, 570), w.propose(1, 62, 2, 30));
        due(time(2, 570), w.propose(1, 62, 2, 15));
        due(time(2, 540), w.propose(1, 8, 2, 30));
        due(time(2, 540), w.propose(1, 0, 2, 30));
        due(time(2, 570), w.propose(1, 2, 2, 30));
        due(time(2, 540), w.propose(1, 56, 2, 30));
        // In one minute of it is enough: of 31 minutes from 540 on three are BUSY, from 570 on three, from 585 on too; of 600 two.
        due(time(2, 600), w.propose(1, 62, 2, 31));
        // Who must and may is one who must: he is not counted.
        due(time(2, 570), w.propose(2, 2 + 4, 2, 30));
        due(time(2, 600), w.propose(8, 8 + 2, 2, 30));
        // All may be BUSY.
        Daywall v = new Daywall();
        v.series(0, 1, 0, 0, 0);
        v.people(0, 62);
        v.time(0, 0, 1440);
        due(time(2, 540), v.propose(1, 62, 2, 60));
        due(time(2, 540), v.propose(1, 63, 2, 60));
        due(-1, v.propose(3, 62, 2, 60));
    }

    @Says(at = "Promise 46", value = "of these the earliest; NONE, if there is none.")
    static void earliestOrNone() {
        Daywall w = new Daywall();
        w.meet(1, -1, 2, 540, 480, 0);
        w.meet(1, -1, 4, 540, 60, 0);
        // On DAY 2 one who may is BUSY all the time; DAY 3 is the first without; DAY 4 at 600 is as good, but later.
        due(time(3, 540), w.propose(1, 2, 2, 60));
        due(time(2, 540), w.propose(1, 4, 2, 60));
        due(time(4, 600), w.propose(1, 2, 4, 60));
        due(-1, w.propose(1, 2, 2, 481));
        // A week's end alone is not to be had: five DAYS have three WORKDAYS at least, if there are no HOLIDAYS.
        for (int date = 110; date <= 112; date++) {
            w.holiday(4, date, 0);
        }
        due(-1, w.propose(1, 0, 7, 60));
        due(time(12, 540), w.propose(1, 0, 8, 60));
    }

    @Says(at = "Promise 46", value = "Throws IndexOutOfBoundsException if the WALL has no such DAY")
    static void refusesDaysOfPropose() {
        days(Edges::lived, (w, x) -> w.propose(1, 0, x, 60));
        days(NOTHING, (w, x) -> w.propose(63, 63, x, 1440));
    }

    @Says(at = "Promise 46", value = "Throws IllegalArgumentException if must is not 1 to 63, may not 0 to 63, or length not 1 to 1440")
    static void refusesPropose() {
        bounds(ARGUMENT, Edges::lived, 1, 63, (w, x) -> w.propose(x, 0, 2, 60));
        bounds(ARGUMENT, Edges::lived, 0, 63, (w, x) -> w.propose(1, x, 2, 60));
        bounds(ARGUMENT, Edges::lived, 1, 1440, (w, x) -> w.propose(1, 0, 2, x));
        bounds(ARGUMENT, Edges::lived, 1, 1440, (w, x) -> w.propose(1, 0, LAST, x));
    }

    public static void main(String[] args) {
        run(EdgeBusyTest.class);
    }
}
