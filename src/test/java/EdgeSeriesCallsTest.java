import java.util.function.Consumer;

/** The edges of the promises 9 to 22: what makes a SERIES, and what changes one. */
public final class EdgeSeriesCallsTest extends Edges {
    private static final String DAILY = "days 1 0 0 0 36524 540 60 1 0";

    private static void daily(Daywall w) {
        w.series(0, 1, 0, 0, 0);
    }

    // ---- 9. series

    @Says(at = "Promise 9", value = {"A new SERIES.", "form: FORM, 0 to 5", "Returns its number."})
    static void newSeriesOfEachForm() {
        Daywall w = new Daywall();
        due(0, w.series(0, 1, 0, 0, 0));
        due(1, w.series(1, 60, 127, 0, LAST));
        due(2, w.series(2, 60, -31, 1, 0));
        due(3, w.series(3, 1, 127, -8, LAST));
        due(4, w.series(4, 60, 1231, 1, 0));
        due(5, w.series(5, 1, 240, 0, LAST));
        due(DAILY, w.text(0));
        due("weeks 60 127 0 36524 36524 540 60 1 0", w.text(1));
        due("month 60 -31 1 0 36524 540 60 1 0", w.text(2));
        due("place 1 127 -8 36524 36524 540 60 1 0", w.text(3));
        due("year 60 1231 1 0 36524 540 60 1 0", w.text(4));
        due("easter 1 240 0 36524 36524 540 60 1 0", w.text(5));
    }

    @Says(at = "Promise 9", value = "Throws IllegalArgumentException if form, every, a, b or start is not in its bounds")
    static void refusesArgumentsOfSeries() {
        bounds(ARGUMENT, NOTHING, 0, 0, (w, x) -> w.series(x, 1, 0, 0, 0));
        for (int form : new int[] {-1, 6, 7, LEAST, MOST}) {
            refused(ARGUMENT, NOTHING, w -> w.series(form, 1, 0, 0, 0));
            refused(ARGUMENT, NOTHING, w -> w.series(form, 1, 1, 0, 0));
            refused(ARGUMENT, NOTHING, w -> w.series(form, 1, 101, 1, 0));
        }
        int[][] rules = {{0, 0, 0}, {1, 1, 0}, {2, 31, 1}, {3, 127, -1}, {4, 229, 0}, {5, -80, 0}};
        for (int[] rule : rules) {
            bounds(ARGUMENT, NOTHING, 1, 60, (w, x) -> w.series(rule[0], x, rule[1], rule[2], 0));
            bounds(ARGUMENT, NOTHING, 0, LAST, (w, x) -> w.series(rule[0], 1, rule[1], rule[2], x));
            for (int b : new int[] {LEAST, -9, 9, MOST}) {
                refused(ARGUMENT, NOTHING, w -> w.series(rule[0], 1, rule[1], b, 0));
            }
            for (int a : new int[] {LEAST, -101, 128 * 128, MOST}) {
                refused(ARGUMENT, NOTHING, w -> w.series(rule[0], 1, a, rule[2], 0));
            }
        }
    }

    @Says(at = "Promise 9", value = "Throws IllegalStateException if there are 10")
    static void refusesEleventhSeries() {
        let(Edges::nineSeries, w -> w.series(5, 1, 0, 0, 0));
        refused(STATE, Edges::tenSeries, w -> w.series(5, 1, 0, 0, 0));
        refused(STATE, Edges::tenSeries, w -> w.series(0, 1, 0, 0, LAST));
    }

    // ---- 10. time

    @Says(at = "Promise 10", value = {"Tells MINUTE and LENGTH.", "Returns MINUTE + LENGTH."})
    static void minuteAndLength() {
        Daywall w = made(EdgeSeriesCallsTest::daily);
        int[][] spans = {{0, 1}, {0, 1440}, {1439, 1}, {720, 720}, {1, 1439}};
        for (int[] span : spans) {
            due(span[0] + span[1], w.time(0, span[0], span[1]));
            due("days 1 0 0 0 36524 " + span[0] + " " + span[1] + " 1 0", w.text(0));
            due(span[0] + "s0", w.agenda(0, 0));
            due(span[1], w.busy(0, 0));
        }
    }

    @Says(at = "Promise 10", value = "Throws IndexOutOfBoundsException if there is no such SERIES")
    static void refusesSeriesOfTime() {
        seriesNumbers((w, x) -> w.time(x, 0, 1));
    }

    @Says(at = "Promise 10", value = "Throws IllegalArgumentException if minute is not 0 to 1439, or length not 1 to 1440 - minute")
    static void refusesMinuteAndLength() {
        bounds(ARGUMENT, Edges::lived, 0, 1439, (w, x) -> w.time(1, x, 1));
        bounds(ARGUMENT, Edges::lived, 1, 1440, (w, x) -> w.time(1, 0, x));
        bounds(ARGUMENT, Edges::lived, 1, 1, (w, x) -> w.time(1, 1439, x));
        bounds(ARGUMENT, Edges::lived, 1, 840, (w, x) -> w.time(1, 600, x));
        bounds(ARGUMENT, Edges::lived, 0, 0, (w, x) -> w.time(1, x, 1440));
        bounds(ARGUMENT, Edges::lived, 0, 1380, (w, x) -> w.time(1, x, 60));
    }

    @Says(at = "Promise 10", value = "Throws IllegalStateException if a MOVED one would last beyond its DAY")
    static void refusesTimeForMovedOnes() {
        for (int minute : new int[] {0, 1, 900, 1379, 1380}) {
            Steps moved = w -> {
                daily(w);
                w.strike(0, 1);
                w.move(0, 2, 9, 0);
                w.move(0, 3, 9, minute);
            };
            let(moved, w -> w.time(0, 0, 1440 - minute));
            if (minute > 0) {
                refused(STATE, moved, w -> w.time(0, 0, 1440 - minute + 1));
                refused(STATE, moved, w -> w.time(0, 0, 1440));
            }
        }
        // One at the last minute is a minute long at most, also when it is on the wall's last DAY.
        Steps last = w -> {
            daily(w);
            w.time(0, 0, 1);
            w.move(0, 0, LAST, 1439);
        };
        let(last, w -> w.time(0, 1439, 1));
        refused(STATE, last, w -> w.time(0, 0, 2));
        // What is struck, mended, or gone after LAST, or of another SERIES, is in nobody's way.
        Daywall w = made(last);
        w.mend(0, 0);
        due(1440, w.time(0, 0, 1440));
        w.time(0, 0, 1);
        w.move(0, 5, 0, 1439);
        w.until(0, 4);
        due(1440, w.time(0, 0, 1440));
        w.strike(0, 2);
        due(1440, w.time(0, 0, 1440));
        daily(w);
        w.time(1, 0, 1);
        w.move(1, 0, 0, 1439);
        due(1440, w.time(0, 0, 1440));
    }

    // ---- 11. people

    @Says(at = "Promise 11", value = {"Tells the set of PEOPLE.", "Returns the one before."})
    static void setOfPeople() {
        Daywall w = made(EdgeSeriesCallsTest::daily);
        due(1, w.people(0, 63));
        due(63, w.people(0, 32));
        due(32, w.people(0, 32));
        due(0, w.busy(0, 0));
        due(60, w.busy(5, 0));
        due("days 1 0 0 0 36524 540 60 32 0", w.text(0));
    }

    @Says(at = "Promise 11", value = "Throws IndexOutOfBoundsException if there is no such SERIES")
    static void refusesSeriesOfPeople() {
        seriesNumbers((w, x) -> w.people(x, 63));
    }

    @Says(at = "Promise 11", value = "Throws IllegalArgumentException if set is not 1 to 63")
    static void refusesSetsOfPeople() {
        bounds(ARGUMENT, Edges::lived, 1, 63, (w, x) -> w.people(0, x));
    }

    // ---- 12. until

    @Says(at = "Promise 12", value = "Tells LAST;")
    static void tellsLast() {
        Daywall w = new Daywall();
        w.series(0, 3, 0, 0, 10);
        due(0, w.until(0, 10));
        due(10, w.next(0, LAST, true));
        due("days 3 0 0 10 10 540 60 1 0", w.text(0));
        due(0, w.until(0, 12));
        due(10, w.next(0, LAST, true));
        due(0, w.until(0, 13));
        due(13, w.next(0, LAST, true));
        due(0, w.until(0, LAST));
        due("days 3 0 0 10 36524 540 60 1 0", w.text(0));
    }

    @Says(at = "Promise 12", value = {"EXCEPTIONS after it are gone.", "Returns how many EXCEPTIONS are gone."})
    static void exceptionsAfterLastAreGone() {
        Daywall w = made(EdgeSeriesCallsTest::daily);
        for (int k = 0; k < 12; k++) {
            w.strike(0, 10 + k);
        }
        due(0, w.until(0, 21));
        due(1, w.until(0, 20));
        due(11, w.count(5));
        due(2, w.on(0, 20));
        due(0, w.on(0, 21));
        // They do not come back with a later LAST.
        due(0, w.until(0, 30));
        due(1, w.on(0, 21));
        due(10, w.until(0, 10));
        due(2, w.on(0, 10));
        due(1, w.until(0, 9));
        due(0, w.count(5));
        // It is the RULE DAY that counts, not where it is MOVED; and they need not be in their order.
        Daywall v = made(EdgeSeriesCallsTest::daily);
        v.move(0, 9, 0, 0);
        v.move(0, 2, 50, 0);
        v.strike(0, 7);
        v.strike(0, 5);
        due(2, v.until(0, 5));
        due(1, v.on(0, 0));
        due(8, v.on(0, 50));
        due(2, v.on(0, 5));
        due(2, v.count(5));
    }

    @Says(at = "Promise 12", value = "Throws IndexOutOfBoundsException if there is no such SERIES")
    static void refusesSeriesOfUntil() {
        seriesNumbers((w, x) -> w.until(x, 0));
    }

    @Says(at = "Promise 12", value = "Throws IllegalArgumentException if day is not START to 36524")
    static void refusesDaysOfUntil() {
        for (int start : new int[] {0, 1, 700, LAST}) {
            bounds(ARGUMENT, w -> {
                w.series(0, 1, 0, 0, start);
                w.strike(0, LAST);
            }, start, LAST, (w, x) -> w.until(0, x));
        }
    }

    // ---- 13. often

    @Says(at = "Promise 13", value = {"LAST is the k-th DAY of the RULE from START on;", "Returns LAST."})
    static void kthIsLast() {
        Daywall w = new Daywall();
        w.series(1, 1, 31, 0, 0);
        due(6, w.often(0, 5));
        due("weeks 1 31 0 0 6 540 60 1 0", w.text(0));
        due(1, w.on(0, 6));
        due(0, w.on(0, 9));
        // LAST as it was is left aside, and a STRUCK one counts.
        w.strike(0, 3);
        due(9, w.often(0, 6));
        due(2, w.often(0, 1));
    }

    @Says(at = "Promise 13", value = "EXCEPTIONS after it are gone.")
    static void exceptionsAfterKthAreGone() {
        Daywall w = made(EdgeSeriesCallsTest::daily);
        w.strike(0, 4);
        w.strike(0, 5);
        w.move(0, 6, 0, 0);
        due(4, w.often(0, 5));
        due(1, w.count(5));
        due(1, w.on(0, 0));
        due(2, w.on(0, 4));
        due(3, w.often(0, 4));
        due(0, w.count(5));
    }

    @Says(at = "Promise 13", value = "k: 1 to 400 (1: the first one)")
    static void boundsOfOften() {
        Daywall w = new Daywall();
        w.series(0, 60, 0, 0, 7);
        due(7, w.often(0, 1));
        due(67, w.often(0, 2));
        due(7 + 60 * 399, w.often(0, 400));
        due(7 + 60 * 399, w.next(0, LAST, true));
        w.series(1, 1, 1, 0, 0);
        due(2, w.often(1, 1));
    }

    @Says(at = "Promise 13", value = "Throws IndexOutOfBoundsException if there is no such SERIES")
    static void refusesSeriesOfOften() {
        seriesNumbers((w, x) -> w.often(x, 1));
    }

    @Says(at = "Promise 13", value = "Throws IllegalArgumentException if k is not in its bounds")
    static void refusesKsOfOften() {
        bounds(ARGUMENT, Edges::threeSeries, 1, 400, (w, x) -> w.often(0, x));
    }

    @Says(at = "Promise 13", value = "Throws IllegalStateException if the WALL has fewer")
    static void refusesWhatTheWallHasNot() {
        Steps easters = w -> {
            w.series(5, 1, 0, 0, 0);
            w.strike(0, 113);
            w.until(0, 9000);
        };
        due(date(2099, 4, 12), made(easters).often(0, 100));
        refused(STATE, easters, w -> w.often(0, 101));
        refused(STATE, easters, w -> w.often(0, 400));
        for (int left = 0; left < 3; left++) {
            int start = LAST - left;
            Steps late = w -> w.series(0, 1, 0, 0, start);
            due(LAST, made(late).often(0, LAST - start + 1));
            refused(STATE, late, w -> w.often(0, LAST - start + 2));
        }
        // The WEEK goes on after the wall's last DAY, a Thursday, the wall does not.
        Steps week = w -> w.series(1, 1, 127, 0, LAST - 1);
        due(LAST, made(week).often(0, 2));
        refused(STATE, week, w -> w.often(0, 3));
        refused(STATE, w -> w.series(1, 1, 16, 0, LAST), w -> w.often(0, 1));
        refused(STATE, w -> w.series(2, 12, 30, 0, 31), w -> w.often(0, 1));
        refused(STATE, w -> w.series(4, 1, 101, 0, LAST), w -> w.often(0, 1));
    }

    // ---- 14. skips

    @Says(at = "Promise 14", value = {"Tells whether it SKIPS.", "Returns whether it did."})
    static void whetherItSkips() {
        Daywall w = made(EdgeSeriesCallsTest::daily);
        w.holiday(4, 101, 0);
        due(false, w.skips(0, true));
        due(4, w.on(0, 0));
        due(true, w.skips(0, true));
        due("days 1 0 0 0 36524 540 60 1 1", w.text(0));
        due(true, w.skips(0, false));
        due(false, w.skips(0, false));
        due(1, w.on(0, 0));
    }

    @Says(at = "Promise 14", value = "Throws IndexOutOfBoundsException if there is no such SERIES")
    static void refusesSeriesOfSkips() {
        seriesNumbers((w, x) -> w.skips(x, true));
        seriesNumbers((w, x) -> w.skips(x, false));
    }

    // ---- 15. strike, 16. move, 17. mend

    @Says(at = "Promise 15", value = {"A RULE DAY is STRUCK.", "Returns how many EXCEPTIONS it has."})
    static void struckDays() {
        Daywall w = new Daywall();
        w.series(0, 7, 0, 0, LAST - 70);
        w.until(0, LAST);
        due(1, w.strike(0, LAST - 70));
        due(2, w.strike(0, LAST));
        due(2, w.on(0, LAST - 70));
        due(2, w.on(0, LAST));
        due("", w.agenda(LAST - 6, LAST));
        due(LAST, w.next(0, LAST, false));
        due(11, w.many(0, LAST - 100, LAST));
    }

    @Says(at = "Promise 15", value = "Throws IndexOutOfBoundsException if there is no such SERIES")
    static void refusesSeriesOfStrike() {
        seriesNumbers((w, x) -> w.strike(x, 4));
    }

    private static void noRuleDays(Consumer<Integer> each) {
        for (int day : new int[] {9, 11, 16, 25, 5, 0, -1, -5, LAST, LAST + 1, 65536 + 10, LEAST, LEAST + 10, MOST}) {
            each.accept(day);
        }
    }

    /** Each fifth DAY, 10 to 20, with nothing else on the wall. */
    private static void fifths(Daywall w) {
        w.series(0, 5, 0, 0, 10);
        w.until(0, 24);
    }

    private static void full(Daywall w) {
        w.series(0, 5, 0, 0, 10);
        for (int k = 0; k < 12; k++) {
            w.strike(0, 10 + 5 * k);
        }
    }

    @Says(at = "Promise 15", value = "Throws IllegalStateException if day is no RULE DAY of it, or has an EXCEPTION, or there are 12")
    static void refusesStates() {
        noRuleDays(day -> refused(STATE, EdgeSeriesCallsTest::fifths, w -> w.strike(0, day)));
        for (int day : new int[] {10, 15, 20}) {
            let(EdgeSeriesCallsTest::fifths, w -> w.strike(0, day));
            refused(STATE, w -> {
                fifths(w);
                w.strike(0, day);
            }, w -> w.strike(0, day));
            refused(STATE, w -> {
                fifths(w);
                w.move(0, day, 3, 3);
            }, w -> w.strike(0, day));
        }
        refused(STATE, EdgeSeriesCallsTest::full, w -> w.strike(0, 70));
        let(w -> {
            full(w);
            w.mend(0, 65);
        }, w -> w.strike(0, 70));
        // A DAY that a SERIES after it, not this one, has.
        refused(STATE, w -> {
            fifths(w);
            daily(w);
        }, w -> w.strike(0, 11));
    }

    @Says(at = "Promise 16", value = {"A RULE DAY is MOVED.", "Returns how many EXCEPTIONS it has."})
    static void movedDays() {
        Daywall w = new Daywall();
        w.series(0, 7, 0, 0, 0);
        due(1, w.move(0, 0, LAST, 1380));
        due(2, w.move(0, 7, 0, 0));
        due(3, w.move(0, 14, 14, 540));
        due(4, w.strike(0, 21));
        due("0s0", w.agenda(0, 13));
        due("20700s0", w.agenda(14, 27));
        due("52595940s0", w.agenda(LAST, LAST));
        due(3 + 8, w.on(0, 0));
        due(3, w.on(0, 7));
        due(60, w.busy(0, LAST));
    }

    @Says(at = "Promise 16", value = "Throws IndexOutOfBoundsException if there is no such SERIES")
    static void refusesSeriesOfMove() {
        seriesNumbers((w, x) -> w.move(x, 4, 0, 0));
    }

    @Says(at = "Promise 16", value = "Throws IllegalArgumentException if the WALL has no DAY toDay, or toMinute is not 0 to 1440 - LENGTH")
    static void refusesWhereItIsMoved() {
        bounds(ARGUMENT, EdgeSeriesCallsTest::fifths, 0, LAST, (w, x) -> w.move(0, 10, x, 0));
        for (int length : new int[] {1, 60, 1439, 1440}) {
            bounds(ARGUMENT, w -> {
                fifths(w);
                w.time(0, 0, length);
            }, 0, 1440 - length, (w, x) -> w.move(0, 15, 700, x));
        }
    }

    @Says(at = "Promise 16", value = "Throws IllegalStateException if day is no RULE DAY of it, or has an EXCEPTION, or there are 12")
    static void refusesToMove() {
        noRuleDays(day -> refused(STATE, EdgeSeriesCallsTest::fifths, w -> w.move(0, day, 10, 0)));
        for (int day : new int[] {10, 15, 20}) {
            let(EdgeSeriesCallsTest::fifths, w -> w.move(0, day, day, 0));
            refused(STATE, w -> {
                fifths(w);
                w.strike(0, day);
            }, w -> w.move(0, day, 3, 3));
            refused(STATE, w -> {
                fifths(w);
                w.move(0, day, 3, 3);
            }, w -> w.move(0, day, 3, 4));
        }
        refused(STATE, EdgeSeriesCallsTest::full, w -> w.move(0, 70, 70, 0));
        refused(STATE, EdgeSeriesCallsTest::full, w -> w.move(0, 10, 10, 0));
        let(w -> {
            full(w);
            w.mend(0, 10);
        }, w -> w.move(0, 70, 70, 0));
    }

    @Says(at = "Promise 17", value = {"Takes an EXCEPTION away.", "Returns how many EXCEPTIONS are left."})
    static void mendedDays() {
        // The first, the last and one between of twelve, and down to none.
        Daywall w = made(EdgeSeriesCallsTest::full);
        int left = 12;
        for (int day : new int[] {10, 65, 35, 15, 60, 20, 25, 30, 40, 45, 50, 55}) {
            left--;
            due(left, w.mend(0, day));
            due(1, w.on(0, day));
            due(left, w.count(5));
            due(left > 0 ? 2 : 1, w.on(0, 55));
        }
        due(1, w.move(0, 10, 11, 5));
        due(0, w.mend(0, 10));
        due(0, w.on(0, 11));
        due(1, w.strike(0, 10));
    }

    @Says(at = "Promise 17", value = "Throws IndexOutOfBoundsException if there is no such SERIES")
    static void refusesSeriesOfMend() {
        seriesNumbers((w, x) -> w.mend(x, 1));
    }

    @Says(at = "Promise 17", value = "Throws IllegalStateException if there is none at day")
    static void refusesToMend() {
        Steps steps = w -> {
            fifths(w);
            w.move(0, 15, 12, 0);
            w.strike(0, 20);
            daily(w);
            w.strike(1, 10);
        };
        let(steps, w -> w.mend(0, 15));
        let(steps, w -> w.mend(0, 20));
        for (int day : new int[] {10, 12, 0, 25, -1, LAST, LAST + 1, LEAST, MOST}) {
            refused(STATE, steps, w -> w.mend(0, day));
        }
        refused(STATE, EdgeSeriesCallsTest::daily, w -> w.mend(0, 0));
        refused(STATE, w -> {
            full(w);
            w.mend(0, 65);
        }, w -> w.mend(0, 65));
        // An EXCEPTION that is gone with an earlier LAST is none.
        refused(STATE, w -> {
            full(w);
            w.until(0, 64);
        }, w -> w.mend(0, 65));
    }

    // ---- 18. cut

    @Says(at = "Promise 18", value = {"Cuts a SERIES in two: LAST is its last RULE DAY before a DAY then;", "day: the DAY"})
    static void lastOfTheFirstPiece() {
        int[][] cuts = {{11, 10}, {14, 10}, {15, 10}, {16, 15}, {20, 15}};
        for (int[] cut : cuts) {
            Daywall w = made(EdgeSeriesCallsTest::fifths);
            due(1, w.cut(0, cut[0]));
            due("days 5 0 0 10 " + cut[1] + " 540 60 1 0", w.text(0));
        }
        Daywall w = made(EdgeSeriesCallsTest::daily);
        due(1, w.cut(0, LAST));
        due("days 1 0 0 0 36523 540 60 1 0", w.text(0));
        due("days 1 0 0 36524 36524 540 60 1 0", w.text(1));
        due(2, w.cut(0, 1));
        due("days 1 0 0 0 0 540 60 1 0", w.text(0));
        due("days 1 0 0 1 36523 540 60 1 0", w.text(2));
    }

    @Says(at = "Promise 18", value = "a new SERIES, as it in all,")
    static void newPieceAsTheFirst() {
        Daywall w = new Daywall();
        w.series(3, 2, 21, -2, 40);
        w.time(0, 1430, 10);
        w.people(0, 42);
        w.skips(0, true);
        w.remind(0, 1440);
        due(1, w.cut(0, 400));
        String[] first = w.text(0).split(" ");
        String[] second = w.text(1).split(" ");
        for (int word = 0; word < 10; word++) {
            if (word != 4 && word != 5) {
                due(first[word], second[word]);
            }
        }
        due(1440, w.remind(0, 1440));
        due(1440, w.remind(1, 1440));
        // The pieces are two: what is told of one is not told of the other.
        w.people(1, 1);
        w.remind(1, -1);
        due(42, w.people(0, 42));
        due(1440, w.remind(0, 1440));
    }

    @Says(at = "Promise 18", value = "has its first RULE DAY from that DAY on as START, and its LAST from before;")
    static void startOfTheNewPiece() {
        int[][] cuts = {{11, 15}, {15, 15}, {16, 20}, {20, 20}};
        for (int[] cut : cuts) {
            Daywall w = made(EdgeSeriesCallsTest::fifths);
            w.cut(0, cut[0]);
            due("days 5 0 0 " + cut[1] + " 24 540 60 1 0", w.text(1));
        }
        // EVERY is counted on as before: the pieces together have the DAYS that the whole one had.
        Daywall w = new Daywall();
        w.series(1, 3, 65, 0, 1);
        w.copy(0);
        for (int k = 0; k < 8; k++) {
            w.cut(0, w.kth(1, 30 - 3 * k));
        }
        for (int day = 0; day <= 400; day += 40) {
            int all = 0;
            for (int k = 0; k < 10; k++) {
                all += k == 1 ? 0 : w.many(k, day, day + 39);
            }
            due(w.many(1, day, day + 39), all);
        }
    }

    @Says(at = "Promise 18", value = "EXCEPTIONS, and what has rung, at DAYS before that DAY are of the first piece, all others of the new one.")
    static void exceptionsOfBothPieces() {
        for (int cut = 11; cut <= 70; cut += 6) {
            Daywall w = new Daywall();
            w.series(0, 5, 0, 0, 10);
            for (int k = 11; k >= 0; k--) {
                if (k % 2 == 0) {
                    w.strike(0, 10 + 5 * k);
                } else {
                    w.move(0, 10 + 5 * k, 100 - 5 * k, k);
                }
            }
            w.cut(0, cut);
            int first = 0;
            for (int k = 0; k < 12; k++) {
                int day = 10 + 5 * k;
                int kind = k % 2 == 0 ? 2 : 3;
                first += day < cut ? 1 : 0;
                due(day < cut ? kind : 0, w.on(0, day) % 8);
                due(day < cut ? 0 : kind, w.on(1, day) % 8);
                due(kind == 3 && day < cut ? 8 : 0, w.on(0, 100 - 5 * k) / 8 * 8);
            }
            due(12, w.count(5));
            // Each piece has room for what is left of its own twelve.
            w.cut(1, 90);
            due(12 - first + 1, w.strike(1, 85));
        }
    }

    /** Rung on the DAYS 0 to 9, each at minute 540; the CLOCK is at DAY 10. */
    private static void rung(Daywall w) {
        daily(w);
        w.remind(0, 0);
        w.tick(14400);
        w.until(0, 9);
    }

    @Says(at = "Promise 18", value = "EXCEPTIONS, and what has rung, at DAYS before that DAY are of the first piece, all others of the new one.")
    static void whatHasRungOfBothPieces() {
        for (int cut = 1; cut <= 9; cut++) {
            Daywall w = made(EdgeSeriesCallsTest::rung);
            w.cut(0, cut);
            for (int day = 0; day <= 9; day++) {
                w.move(day < cut ? 0 : 1, day, 10, 1 + day);
            }
            due(0, w.tick(100));
            // Those that the first piece gets anew from the cut on have not rung of it.
            w.until(0, 9);
            for (int day = cut; day <= 9; day++) {
                w.move(0, day, 10, 200 + day);
            }
            due(10 - cut, w.tick(400));
        }
    }

    /** What has rung on 196 DAYS is cut at many of them, and joined again: no DAY rings twice, and each that has not yet rings. */
    @Says(at = "Promise 18", value = "what has rung, at DAYS before that DAY are of the first piece, all others of the new one.")
    static void whatHasRungLongAgoOfBothPieces() {
        for (int cut : new int[] {1, 2, 62, 63, 64, 65, 66, 127, 128, 129, 191, 192, 193, 195}) {
            Steps steps = w -> {
                w.series(0, 1, 0, 0, 0);
                w.remind(0, 0);
                for (int n = 0; n < 14; n++) {
                    w.tick(20160);
                }
                w.until(0, 195);
                w.cut(0, cut);
            };
            // Some DAYS on both sides of the cut, and at both ends, MOVED to minutes that are yet to come.
            for (int day : new int[] {0, 1, cut - 2, cut - 1, cut, cut + 1, 63, 64, 65, 127, 128, 194, 195}) {
                if (day < 0 || day > 195) {
                    continue;
                }
                Daywall w = made(steps);
                w.move(day < cut ? 0 : 1, day, 197, 0);
                due(0, w.tick(2880));
                Daywall v = made(steps);
                v.join(0, 1);
                v.move(0, day, 197, 0);
                due(0, v.tick(2880));
                Daywall u = made(steps);
                u.until(0, 195);
                u.move(0, day, 197, 0);
                due(day < cut ? 0 : 1, u.tick(2880));
            }
        }
    }

    /** What has not rung rings of both pieces, and of what is joined of them. */
    @Says(at = "Promise 18", value = "what has rung, at DAYS before that DAY are of the first piece, all others of the new one.")
    static void whatHasNotRungRings() {
        for (int cut : new int[] {1, 2, 3, 4, 5, 9, 70}) {
            for (boolean isJoined : new boolean[] {false, true}) {
                Daywall w = made(EdgeSeriesCallsTest::daily);
                w.remind(0, 0);
                due(3, w.tick(3 * 1440));
                w.cut(0, cut);
                due(1, w.tick(1440));
                if (isJoined) {
                    w.join(0, 1);
                }
                for (int n = 0; n < 10; n++) {
                    due(14, w.tick(20160));
                }
                StringBuilder last = new StringBuilder();
                for (int day = 136; day <= 143; day++) {
                    last.append(' ').append(time(day, 540)).append(isJoined ? "s0" : "s1");
                }
                due(last.substring(1), w.rung());
            }
        }
    }

    @Says(at = "Promise 18", value = "Returns the number of the new one.")
    static void numberOfTheNewPiece() {
        Daywall w = made(EdgeSeriesCallsTest::daily);
        for (int k = 1; k <= 9; k++) {
            due(k, w.cut(0, 100 - k));
            due(k + 1, w.count(0));
            due("days 1 0 0 " + (100 - k) + " " + (k == 1 ? 36524 : 100 - k) + " 540 60 1 0", w.text(k));
        }
    }

    @Says(at = "Promise 18", value = "Throws IndexOutOfBoundsException if there is no such SERIES")
    static void refusesSeriesOfCut() {
        refused(INDEX, NOTHING, w -> w.cut(0, 1));
        bounds(INDEX, Edges::threeSeries, 0, 2, (w, x) -> w.cut(x, 1));
        bounds(INDEX, Edges::nineSeries, 0, 8, (w, x) -> w.cut(x, 1));
    }

    @Says(at = "Promise 18", value = "Throws IllegalStateException if there are 10, or it has no RULE DAY before day, or none from day on")
    static void refusesToCut() {
        let(Edges::nineSeries, w -> w.cut(0, 5));
        refused(STATE, Edges::tenSeries, w -> w.cut(0, 5));
        for (int day : new int[] {10, 9, 1, 0, -1, LEAST, LEAST + 1, 21, 24, 25, LAST, LAST + 1, MOST}) {
            refused(STATE, EdgeSeriesCallsTest::fifths, w -> w.cut(0, day));
        }
        let(EdgeSeriesCallsTest::fifths, w -> w.cut(0, 11));
        let(EdgeSeriesCallsTest::fifths, w -> w.cut(0, 20));
        // START is no RULE DAY itself: the first one is DAY 2.
        Steps mondays = w -> w.series(1, 1, 1, 0, 0);
        refused(STATE, mondays, w -> w.cut(0, 1));
        refused(STATE, mondays, w -> w.cut(0, 2));
        let(mondays, w -> w.cut(0, 3));
        // The wall's last Monday is DAY 36521.
        let(mondays, w -> w.cut(0, LAST - 3));
        refused(STATE, mondays, w -> w.cut(0, LAST - 2));
        refused(STATE, mondays, w -> w.cut(0, LAST));
        refused(STATE, EdgeSeriesCallsTest::daily, w -> w.cut(0, 0));
        refused(STATE, EdgeSeriesCallsTest::daily, w -> w.cut(0, LAST + 1));
        refused(STATE, EdgeSeriesCallsTest::daily, w -> w.cut(0, MOST));
        // None at all, and a single one.
        refused(STATE, w -> w.series(2, 12, 30, 0, 31), w -> w.cut(0, 1000));
        refused(STATE, w -> w.series(0, 1, 0, 0, LAST), w -> w.cut(0, LAST));
    }

    // ---- 19. join

    /** Each third DAY, cut at 30 into number 0 and number 1. */
    private static void pieces(Daywall w) {
        w.series(0, 3, 0, 0, 0);
        w.cut(0, 30);
    }

    @Says(at = "Promise 19", value = "Joins two SERIES: LAST of the first is that of the second then,")
    static void lastOfTheSecond() {
        Daywall w = made(EdgeSeriesCallsTest::pieces);
        due(0, w.join(0, 1));
        due("days 3 0 0 0 36524 540 60 1 0", w.text(0));
        Daywall v = made(EdgeSeriesCallsTest::pieces);
        v.until(1, 31);
        due(0, v.join(0, 1));
        due("days 3 0 0 0 31 540 60 1 0", v.text(0));
        // A second one of one DAY, the wall's last.
        Daywall u = made(EdgeSeriesCallsTest::daily);
        u.cut(0, LAST);
        due(0, u.join(0, 1));
        due(DAILY, u.text(0));
    }

    @Says(at = "Promise 19", value = "EXCEPTIONS and what has rung of both are its own;")
    static void exceptionsOfBothAreItsOwn() {
        Daywall w = made(EdgeSeriesCallsTest::pieces);
        w.strike(0, 0);
        w.move(0, 3, 500, 7);
        w.strike(1, 30);
        w.move(1, 33, 501, 8);
        w.join(0, 1);
        due(2, w.on(0, 0));
        due(3, w.on(0, 3));
        due(2, w.on(0, 30));
        due(3, w.on(0, 33));
        due("720007s0 721448s0 721980s0", w.agenda(500, 501));
        due(4, w.count(5));
        Daywall v = made(EdgeSeriesCallsTest::rung);
        v.cut(0, 4);
        v.join(0, 1);
        for (int day = 0; day <= 9; day++) {
            v.move(0, day, 10, 1 + day);
        }
        due(0, v.tick(100));
    }

    @Says(at = "Promise 19", value = "the second is gone.")
    static void theSecondIsGone() {
        Daywall w = made(EdgeSeriesCallsTest::pieces);
        w.series(0, 7, 0, 0, 7);
        w.join(0, 1);
        due(2, w.count(0));
        due("days 7 0 0 7 36524 540 60 1 0", w.text(1));
        refused(INDEX, x -> {
            pieces(x);
            x.join(0, 1);
        }, x -> x.text(1));
    }

    @Says(at = "Promise 19", value = "Returns the number of the first one then.")
    static void numberOfTheFirstThen() {
        Daywall w = new Daywall();
        w.series(0, 3, 0, 0, 30);
        w.series(0, 1, 0, 0, 0);
        w.series(0, 3, 0, 0, 0);
        w.until(2, 27);
        due(1, w.join(2, 0));
        due("days 3 0 0 0 36524 540 60 1 0", w.text(1));
        due(DAILY, w.text(0));
        w.cut(1, 9);
        due(1, w.join(1, 2));
        w.drop(0);
        w.cut(0, 9);
        due(0, w.join(0, 1));
        due(1, w.count(0));
    }

    @Says(at = "Promise 19", value = "Throws IndexOutOfBoundsException if there is no such SERIES as a or b")
    static void refusesSeriesOfJoin() {
        Steps both = w -> {
            pieces(w);
            w.series(0, 1, 0, 0, 0);
        };
        for (int number : new int[] {-1, 3, 10, LEAST, MOST}) {
            refused(INDEX, both, w -> w.join(0, number));
            refused(INDEX, both, w -> w.join(number, 1));
            refused(INDEX, both, w -> w.join(number, number));
        }
        let(both, w -> w.join(0, 1));
        refused(INDEX, NOTHING, w -> w.join(0, 0));
        Steps full = w -> {
            nineSeries(w);
            w.cut(0, 5);
        };
        let(full, w -> w.join(0, 9));
        refused(INDEX, full, w -> w.join(0, 10));
        refused(INDEX, full, w -> w.join(10, 9));
    }

    @Says(at = "Promise 19", value = "Throws IllegalStateException if FORM, EVERY, A, B, MINUTE, LENGTH, set of PEOPLE, SKIPS or REMIND"
        + " of both are unlike,")
    static void refusesUnlikeOnes() {
        // First and second would fit but for one thing each: the second begins on the first's next DAY.
        int[][][] rules = {
            {{0, 1, 0, 0}, {1, 1, 127, 0}, {3, 1, 127, 1}}, {{1, 1, 1, 0}, {1, 2, 1, 0}, {1, 1, 3, 0}},
            {{2, 1, 1, 0}, {2, 2, 1, 0}, {2, 1, 1, 1}}, {{3, 1, 127, 1}, {3, 3, 127, 1}, {3, 1, 127, -1}},
            {{4, 1, 101, 0}, {4, 1, 101, 1}, {4, 5, 101, 0}}};
        int[][] spans = {{0, 1}, {2, 9}, {0, 31}, {0, 31}, {0, 366}};
        for (int k = 0; k < rules.length; k++) {
            int[] first = rules[k][0];
            int[] span = spans[k];
            for (int[] second : rules[k]) {
                Steps steps = w -> {
                    w.series(first[0], first[1], first[2], first[3], span[0]);
                    w.until(0, span[1] - 1);
                    w.series(second[0], second[1], second[2], second[3], span[1]);
                };
                if (second == first) {
                    let(steps, w -> w.join(0, 1));
                } else {
                    refused(STATE, steps, w -> w.join(0, 1));
                }
            }
        }
        // The FORM alone: A and B are bounds of both, and START is a DAY of both rules.
        int[][][] forms = {{{0, 1, 0, 0, 0}, {5, 1, 0, 0, 113}}, {{1, 1, 16, 0, 0}, {5, 1, 16, 0, date(2001, 4, 27)}},
            {{2, 1, 1, 1, 0}, {3, 1, 1, 1, date(2000, 5, 1)}}, {{3, 1, 3, 1, 0}, {2, 1, 3, 1, date(2000, 4, 3)}}};
        for (int[][] two : forms) {
            refused(STATE, w -> {
                w.series(two[0][0], two[0][1], two[0][2], two[0][3], 0);
                w.until(0, two[1][4] - 1);
                w.series(two[1][0], two[1][1], two[1][2], two[1][3], two[1][4]);
            }, w -> w.join(0, 1));
        }
        int[][] unlike = {{541, 60, 1, 0, -1}, {540, 61, 1, 0, -1}, {540, 60, 2, 0, -1}, {540, 60, 1, 1, -1}, {540, 60, 1, 0, 0}};
        for (int[] u : unlike) {
            refused(STATE, w -> {
                pieces(w);
                w.time(1, u[0], u[1]);
                w.people(1, u[2]);
                w.skips(1, u[3] == 1);
                w.remind(1, u[4]);
            }, w -> w.join(0, 1));
            let(w -> {
                pieces(w);
                for (int k = 0; k <= 1; k++) {
                    w.time(k, u[0], u[1]);
                    w.people(k, u[2]);
                    w.skips(k, u[3] == 1);
                    w.remind(k, u[4]);
                }
            }, w -> w.join(0, 1));
        }
    }

    @Says(at = "Promise 19", value = "or START of b is not the first DAY of the RULE of a after LAST of a,")
    static void refusesGapsAndOverlaps() {
        // Each third DAY from 0 to LAST, and from START on.
        int[][] spans = {{27, 30, 1}, {28, 30, 1}, {29, 30, 1}, {30, 30, 0}, {26, 30, 0}, {27, 33, 0}, {27, 27, 0}, {27, 24, 0},
            {27, 29, 0}, {27, 31, 0}, {0, 3, 1}, {0, 0, 0}, {LAST - 3, LAST - 2, 1}, {LAST - 2, LAST - 2, 0}, {LAST, LAST - 2, 0}};
        for (int[] span : spans) {
            Steps steps = w -> {
                w.series(0, 3, 0, 0, 0);
                w.until(0, span[0]);
                w.series(0, 3, 0, 0, span[1]);
            };
            if (span[2] == 1) {
                let(steps, w -> w.join(0, 1));
            } else {
                refused(STATE, steps, w -> w.join(0, 1));
            }
            refused(STATE, steps, w -> w.join(1, 0));
        }
        refused(STATE, EdgeSeriesCallsTest::daily, w -> w.join(0, 0));
        // A START that is no DAY of the RULE, though the first one after it would be right.
        refused(STATE, w -> {
            w.series(1, 1, 1, 0, 0);
            w.until(0, 8);
            w.series(1, 1, 1, 0, 8);
        }, w -> w.join(0, 1));
    }

    @Says(at = "Promise 19", value = "or both have more than 12 EXCEPTIONS together")
    static void refusesThirteenExceptions() {
        for (int first : new int[] {0, 1, 6, 11, 12}) {
            let(w -> exceptionsOfBoth(w, first, 12 - first), w -> w.join(0, 1));
            Daywall w = new Daywall();
            exceptionsOfBoth(w, first, 12 - first);
            w.join(0, 1);
            due(12, w.count(5));
            if (first > 0) {
                refused(STATE, x -> exceptionsOfBoth(x, first, 13 - first), x -> x.join(0, 1));
            }
            refused(STATE, x -> exceptionsOfBoth(x, Math.max(first, 1), 12), x -> x.join(0, 1));
        }
    }

    private static void exceptionsOfBoth(Daywall w, int first, int second) {
        daily(w);
        w.cut(0, 50);
        for (int k = 0; k < first; k++) {
            w.strike(0, k);
        }
        for (int k = 0; k < second; k++) {
            w.strike(1, 50 + k);
        }
    }

    // ---- 20. drop, 21. copy, 22. remind

    @Says(at = "Promise 20", value = {"A SERIES is gone.", "Returns how many are left."})
    static void droppedSeries() {
        Daywall w = made(Edges::tenSeries);
        for (int left = 9; left >= 0; left--) {
            due(left, w.drop(left % 3 == 0 ? left : 0));
            due(left, w.count(0));
            due(left, w.count(5));
        }
        due("", w.agenda(0, 13));
        due(0, w.busy(0, 0));
        due(0, w.series(0, 1, 0, 0, 0));
        due(0, w.count(5));
    }

    @Says(at = "Promise 20", value = "Throws IndexOutOfBoundsException if there is no such SERIES")
    static void refusesSeriesOfDrop() {
        seriesNumbers((w, x) -> w.drop(x));
        refused(INDEX, w -> {
            daily(w);
            w.drop(0);
        }, w -> w.drop(0));
    }

    @Says(at = "Promise 21", value = "A new SERIES is read from the TEXT of one (without EXCEPTIONS and REMIND).")
    static void copiesText() {
        int[][] rules = {{0, 60, 0, 0, LAST}, {1, 1, 127, 0, 0}, {2, 2, -31, 1, 3}, {3, 3, 64, -8, 4}, {4, 4, 229, 1, 5}, {5, 5, -80, 0, 6}};
        for (int[] r : rules) {
            Daywall w = new Daywall();
            w.series(r[0], r[1], r[2], r[3], r[4]);
            w.time(0, 1439, 1);
            w.people(0, 63);
            w.skips(0, true);
            due(1, w.copy(0));
            due(w.text(0), w.text(1));
            w.time(0, 0, 1440);
            w.people(0, 32);
            w.skips(0, false);
            w.until(0, LAST);
            due(2, w.copy(0));
            due(w.text(0), w.text(2));
            due(false, w.text(1).equals(w.text(2)));
        }
        Daywall w = made(EdgeSeriesCallsTest::full);
        w.remind(0, 3);
        due(1, w.copy(0));
        due(1, w.on(1, 10));
        due(12, w.count(5));
        due(-1, w.remind(1, 5));
        due(3, w.remind(0, 3));
        // What has rung is not in a TEXT.
        Daywall v = made(EdgeSeriesCallsTest::rung);
        v.copy(0);
        v.remind(1, 0);
        v.move(0, 3, 10, 5);
        v.move(1, 3, 10, 6);
        due(1, v.tick(10));
        due(true, v.rung().endsWith(" 14406s1"));
    }

    @Says(at = "Promise 21", value = "Returns the number of the new one.")
    static void numbersOfCopies() {
        Daywall w = made(EdgeSeriesCallsTest::daily);
        for (int k = 1; k <= 9; k++) {
            due(k, w.copy(k - 1));
            due(DAILY, w.text(k));
        }
    }

    @Says(at = "Promise 21", value = "Throws IndexOutOfBoundsException if there is no such SERIES")
    static void refusesSeriesOfCopy() {
        refused(INDEX, NOTHING, w -> w.copy(0));
        bounds(INDEX, Edges::threeSeries, 0, 2, (w, x) -> w.copy(x));
        bounds(INDEX, Edges::nineSeries, 0, 8, (w, x) -> w.copy(x));
    }

    @Says(at = "Promise 21", value = "Throws IllegalStateException if there are 10")
    static void refusesEleventhAsCopy() {
        let(Edges::nineSeries, w -> w.copy(8));
        for (int number : new int[] {0, 5, 9}) {
            refused(STATE, Edges::tenSeries, w -> w.copy(number));
        }
    }

    @Says(at = "Promise 22", value = {"Tells REMIND.", "before: how many minutes ahead, 0 to 1440, or NONE", "Returns REMIND before."})
    static void reminds() {
        Daywall w = made(EdgeSeriesCallsTest::daily);
        int old = -1;
        for (int before : new int[] {0, 1440, -1, 1, 1439, -1, -1}) {
            due(old, w.remind(0, before));
            old = before;
        }
        // With 1440 it rings a whole DAY ahead, with 0 at its TIME, with NONE never.
        w.remind(0, 1440);
        due(1, w.tick(540));
        due("540s0", w.rung());
        w.remind(0, 0);
        w.time(0, 541, 60);
        due(1, w.tick(1));
        due("540s0 541s0", w.rung());
        w.remind(0, -1);
        due(0, w.tick(20160));
    }

    @Says(at = "Promise 22", value = "Throws IndexOutOfBoundsException if there is no such SERIES")
    static void refusesSeriesOfRemind() {
        seriesNumbers((w, x) -> w.remind(x, 0));
        seriesNumbers((w, x) -> w.remind(x, -1));
    }

    @Says(at = "Promise 22", value = "Throws IllegalArgumentException if before is not in its bounds")
    static void refusesReminds() {
        bounds(ARGUMENT, Edges::lived, -1, 1440, (w, x) -> w.remind(0, x));
        bounds(ARGUMENT, Edges::threeSeries, -1, 1440, (w, x) -> w.remind(2, x));
    }

    public static void main(String[] args) {
        run(EdgeSeriesCallsTest.class);
    }
}
