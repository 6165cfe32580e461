import java.math.BigInteger;
import java.util.ArrayList;
import java.util.List;

/** The edges of NOTES and the DOOR (the Description's part 5), of its two sentences about exceptions, and of the promises 54 to 61. */
public final class EdgeRestTest extends Edges {
    private static final String NOTES = "5. Clock, zones, tasks, notes";

    // ---- NOTES

    private static void notes(Daywall w, int copy, int... values) {
        for (int number = 0; number < values.length; number++) {
            if (values[number] >= 0) {
                w.note(copy, number, values[number]);
            }
        }
    }

    /** Brings both together in both ways, on walls that are made alike, and tells what both COPIES are then. */
    private static void dueTogether(String want, Steps steps) {
        for (int k = 0; k <= 1; k++) {
            Daywall w = made(steps);
            int many = want.isEmpty() ? 0 : want.split(" ").length;
            due(many, w.merge(k == 1));
            due(want, w.notes(0));
            due(want, w.notes(1));
            // Brought together once more, either way, nothing is changed.
            due(many, w.merge(k == 0));
            due(want, w.notes(0));
            due(want, w.notes(1));
        }
    }

    @Says(at = NOTES, value = "NOTES: two COPIES, 0 and 1, of numbers 0 to 9, each with a value 0 to 99, or not there;")
    static void twoCopiesOfTen() {
        Daywall w = new Daywall();
        for (int copy = 0; copy <= 1; copy++) {
            due("", w.notes(copy));
            for (int number = 9; number >= 0; number--) {
                due(10 - number, w.note(copy, number, copy == 0 ? 0 : 99));
            }
            for (int number = 0; number <= 9; number++) {
                due(10, w.note(copy, number, copy == 0 ? number : 99 - number));
            }
        }
        due("0=0 1=1 2=2 3=3 4=4 5=5 6=6 7=7 8=8 9=9", w.notes(0));
        due("0=99 1=98 2=97 3=96 4=95 5=94 6=93 7=92 8=91 9=90", w.notes(1));
        due(20, w.count(8));
        bounds(INDEX, Edges::lived, 0, 1, (x, copy) -> x.note(copy, 0, 5));
        bounds(INDEX, Edges::lived, 0, 9, (x, number) -> x.note(1, number, 5));
        bounds(ARGUMENT, Edges::lived, 0, 99, (x, value) -> x.note(1, 9, value));
    }

    @Says(at = NOTES, value = "the BASE is what was brought together last (empty at first).")
    static void baseIsWhatWasBroughtTogetherLast() {
        // No BASE: the greater.
        dueTogether("0=5 1=1", w -> {
            notes(w, 0, 5, 0);
            notes(w, 1, 4, 1);
        });
        // The last BASE counts, not the one before it: 5, then 4 (told by one), then 5 and 3.
        dueTogether("0=5", w -> {
            notes(w, 0, 5);
            w.merge(false);
            notes(w, 1, 4);
            w.merge(false);
            notes(w, 0, 5);
            notes(w, 1, 3);
        });
        dueTogether("0=3", w -> {
            notes(w, 0, 5);
            w.merge(false);
            notes(w, 1, 3);
        });
        // A number that was not in what was brought together last is not in the BASE any more.
        dueTogether("0=5", w -> {
            notes(w, 0, 5);
            w.merge(false);
            w.erase(0, 0);
            w.erase(1, 0);
            w.merge(false);
            notes(w, 0, 5);
            notes(w, 1, 4);
        });
        // Nought is a value like others, in the BASE too.
        dueTogether("0=7 1=9", w -> {
            notes(w, 0, 0, 9);
            w.merge(true);
            notes(w, 0, 7, 0);
            w.merge(true);
            notes(w, 1, 7, 9);
        });
    }

    @Says(at = NOTES, value = "Brought together: a number is there, if one COPY or both have it;")
    static void thereIfOneHasIt() {
        dueTogether("", w -> { });
        dueTogether("0=0", w -> notes(w, 0, 0));
        dueTogether("9=99", w -> w.note(1, 9, 99));
        dueTogether("0=1 1=2 2=3", w -> {
            notes(w, 0, 1, -1, 3);
            notes(w, 1, 1, 2);
        });
        // Gone from one COPY alone it comes again, gone from both it is gone.
        dueTogether("0=1 1=2", w -> {
            notes(w, 0, 1, 2, 3);
            w.merge(false);
            w.erase(0, 0);
            w.erase(1, 1);
            w.erase(0, 2);
            w.erase(1, 2);
        });
        dueTogether("0=0 1=1 2=2 3=3 4=4 5=5 6=6 7=7 8=8 9=9", w -> notes(w, 1, 0, 1, 2, 3, 4, 5, 6, 7, 8, 9));
    }

    @Says(at = NOTES, value = "its value, if one has it: that one's; if both have the same: that;")
    static void valueOfOneOrOfBoth() {
        dueTogether("0=0 1=99 2=50", w -> {
            notes(w, 0, 0, -1, 50);
            notes(w, 1, -1, 99, 50);
        });
        // That one's, also if it is not that of the BASE, or is.
        dueTogether("0=1 1=2 2=9", w -> {
            notes(w, 0, 5, 5, 9);
            w.merge(false);
            w.note(0, 0, 1);
            w.erase(1, 0);
            w.note(1, 1, 2);
            w.erase(0, 1);
            w.erase(0, 2);
        });
        // The same of both, smaller or greater than that of the BASE.
        dueTogether("0=1 1=9", w -> {
            notes(w, 0, 5, 5);
            w.merge(false);
            notes(w, 0, 1, 9);
            notes(w, 1, 1, 9);
        });
    }

    @Says(at = NOTES, value = "if both have unlike ones: if one of these is that of the BASE, the other one,")
    static void otherThanThatOfTheBase() {
        for (int copy = 0; copy <= 1; copy++) {
            int one = copy;
            dueTogether("0=0 1=99 2=49 3=51", w -> {
                notes(w, 0, 50, 50, 50, 50);
                w.merge(false);
                notes(w, one, 0, 99, 49, 51);
            });
        }
    }

    @Says(at = NOTES, value = "otherwise the greater.")
    static void otherwiseTheGreater() {
        dueTogether("0=99 1=99 2=1 3=51", w -> {
            notes(w, 0, 0, 99, 1, 51);
            notes(w, 1, 99, 0, 0, 50);
        });
        dueTogether("0=20 1=20 2=9 3=2", w -> {
            notes(w, 0, 10, 10, 10, 0);
            w.merge(false);
            notes(w, 0, 20, 5, 9, 1);
            notes(w, 1, 5, 20, 8, 2);
        });
    }

    @Says(at = NOTES, value = "All of both COPIES and the BASE are that then.")
    static void copiesAndBaseAreThatThen() {
        for (int k = 0; k <= 1; k++) {
            boolean isSecondFirst = k == 1;
            Daywall w = new Daywall();
            notes(w, 0, 5, 7);
            notes(w, 1, 6, -1, 8);
            due(3, w.merge(isSecondFirst));
            due("0=6 1=7 2=8", w.notes(0));
            due("0=6 1=7 2=8", w.notes(1));
            due(6, w.count(8));
            // The BASE is 6, 7 and 8: what one COPY has told since is taken, though it is smaller.
            notes(w, 0, 1);
            notes(w, 1, -1, 2, 3);
            due(3, w.merge(isSecondFirst));
            due("0=1 1=2 2=3", w.notes(0));
            due("0=1 1=2 2=3", w.notes(1));
        }
    }

    @Says(at = NOTES, value = "The DOOR: who knocks is REFUSED, and counted (nobody else is).")
    static void onlyWhoKnocksIsCounted() {
        Daywall w = made(Edges::lived);
        due(1, w.count(9));
        due(-3, w.meet(0, 1, 3, 610, 60, 0));
        try {
            due("an exception", w.text(99));
        } catch (IndexOutOfBoundsException e) {
            due(1, w.count(9));
        }
        due(2, w.knock());
        due(2, w.count(9));
    }

    // ---- 54. note, 55. erase, 56. merge, 57. notes

    @Says(at = "Promise 54", value = {"Puts a NOTE into a COPY.", "value: its value from now on", "Returns how many that COPY has."})
    static void putsNotes() {
        Daywall w = new Daywall();
        due(1, w.note(0, 9, 0));
        due(1, w.note(0, 9, 99));
        due(1, w.note(1, 0, 99));
        due(2, w.note(0, 0, 1));
        due("0=1 9=99", w.notes(0));
        due("0=99", w.notes(1));
    }

    @Says(at = "Promise 54", value = "Throws IndexOutOfBoundsException if copy is not 0 or 1, or number not 0 to 9")
    static void refusesCopyAndNumberOfNote() {
        for (int number = 0; number <= 9; number++) {
            int n = number;
            bounds(INDEX, Edges::lived, 0, 1, (w, x) -> w.note(x, n, 5));
        }
        bounds(INDEX, Edges::lived, 0, 9, (w, x) -> w.note(0, x, 5));
        bounds(INDEX, Edges::lived, 0, 9, (w, x) -> w.note(1, x, 5));
    }

    @Says(at = "Promise 54", value = "Throws IllegalArgumentException if value is not 0 to 99")
    static void refusesValues() {
        bounds(ARGUMENT, Edges::lived, 0, 99, (w, x) -> w.note(0, 0, x));
        bounds(ARGUMENT, NOTHING, 0, 99, (w, x) -> w.note(1, 9, x));
    }

    private static void full(Daywall w) {
        for (int number = 0; number <= 9; number++) {
            w.note(0, number, number);
            w.note(1, number, 0);
        }
    }

    @Says(at = "Promise 55", value = {"Takes a NOTE out of a COPY.", "Returns how many that COPY has."})
    static void takesNotesOut() {
        for (int copy = 0; copy <= 1; copy++) {
            Daywall w = made(EdgeRestTest::full);
            String other = w.notes(1 - copy);
            int left = 10;
            for (int number : new int[] {0, 9, 5, 1, 8, 2, 3, 4, 6, 7}) {
                left--;
                due(left, w.erase(copy, number));
                due(10 + left, w.count(8));
            }
            due("", w.notes(copy));
            due(other, w.notes(1 - copy));
            due(1, w.note(copy, 0, 0));
        }
    }

    @Says(at = "Promise 55", value = "Throws IndexOutOfBoundsException if copy is not 0 or 1, or number not 0 to 9")
    static void refusesCopyAndNumberOfErase() {
        bounds(INDEX, EdgeRestTest::full, 0, 1, (w, x) -> w.erase(x, 0));
        bounds(INDEX, EdgeRestTest::full, 0, 9, (w, x) -> w.erase(0, x));
        bounds(INDEX, EdgeRestTest::full, 0, 9, (w, x) -> w.erase(1, x));
    }

    @Says(at = "Promise 55", value = "Throws IllegalStateException if that COPY has it not")
    static void refusesToErase() {
        for (int number = 0; number <= 9; number++) {
            int n = number;
            refused(STATE, NOTHING, w -> w.erase(0, n));
            refused(STATE, NOTHING, w -> w.erase(1, n));
            Steps first = w -> w.note(0, n, 0);
            let(first, w -> w.erase(0, n));
            refused(STATE, first, w -> w.erase(1, n));
            refused(STATE, w -> {
                full(w);
                w.erase(1, n);
            }, w -> w.erase(1, n));
        }
    }

    @Says(at = "Promise 56", value = {"Brings both COPIES together.", "isSecondFirst: whether COPY 1 begins (it is the same)",
        "Returns how many NOTES each COPY has then."})
    static void bringsTogether() {
        dueTogether("", NOTHING);
        dueTogether("0=0 1=1 2=2 3=3 4=4 5=5 6=6 7=7 8=8 9=9", EdgeRestTest::full);
        // Each mixture of three values, or none, in both COPIES and the BASE: it is the same whichever begins.
        for (int mixture = 0; mixture < 64; mixture++) {
            int base = mixture % 4 - 1;
            int one = mixture / 4 % 4 - 1;
            int other = mixture / 16 - 1;
            int due = one == -1 ? other : other == -1 || one == other ? one : one == base ? other : other == base ? one
                : Math.max(one, other);
            dueTogether(due < 0 ? "" : "4=" + due, w -> {
                if (base >= 0) {
                    w.note(0, 4, base);
                    w.merge(false);
                    w.erase(0, 4);
                    w.erase(1, 4);
                }
                if (one >= 0) {
                    w.note(0, 4, one);
                }
                if (other >= 0) {
                    w.note(1, 4, other);
                }
                due(true, w.isSound());
            });
        }
    }

    @Says(at = "Promise 57", value = "Returns its NOTES by number, each as number, \"=\" and value, with one blank between.")
    static void textOfNotes() {
        Daywall w = new Daywall();
        due("", w.notes(0));
        due("", w.notes(1));
        w.note(0, 9, 9);
        due("9=9", w.notes(0));
        w.note(0, 0, 99);
        w.note(0, 5, 0);
        w.note(0, 4, 10);
        due("0=99 4=10 5=0 9=9", w.notes(0));
        due("", w.notes(1));
    }

    @Says(at = "Promise 57", value = "Throws IndexOutOfBoundsException if copy is not 0 or 1")
    static void refusesCopyOfNotes() {
        bounds(INDEX, Edges::lived, 0, 1, (w, x) -> w.notes(x));
        bounds(INDEX, NOTHING, 0, 1, (w, x) -> w.notes(x));
    }

    // ---- 58. knock, 59. count

    @Says(at = "Promise 58", value = {"Knocks at the DOOR.", "Returns how many were REFUSED ever, with this."})
    static void knocks() {
        Daywall w = new Daywall();
        for (int k = 1; k <= 500; k++) {
            due(k, w.knock());
        }
        due(500, w.count(9));
    }

    @Says(at = "Promise 59", value = {"what: 0 how many SERIES, 1 HOLIDAYS told, 2 MEETINGS, 3 those that STAND, 4 TASKS, 5 EXCEPTIONS of all SERIES,"
        + " 6 the TIME of the CLOCK, 7 how many RINGS ever, 8 how many NOTES COPY 0 has + how many COPY 1 has, 9 how many were REFUSED",
        "Returns that."})
    static void counts() {
        Daywall w = new Daywall();
        for (int what = 0; what <= 9; what++) {
            due(0, w.count(what));
        }
        for (int k = 0; k < 10; k++) {
            w.series(0, 1, 0, 0, 0);
            w.remind(k, 0);
            for (int n = 0; n < 12; n++) {
                w.strike(k, 100 + n);
            }
            w.note(0, k, k);
            w.note(1, k, k);
        }
        for (int k = 0; k < 6; k++) {
            w.holiday(5, 0, 0);
        }
        meetings(w, 24);
        w.cancel(5);
        tasks(w, 8);
        w.tick(20160);
        w.knock();
        int[] full = {10, 6, 24, 23, 8, 120, 20160, 140, 20, 1};
        for (int what = 0; what <= 9; what++) {
            due(full[what], w.count(what));
        }
        w.drop(0);
        w.erase(1, 0);
        int[] less = {9, 6, 24, 23, 8, 108, 20160, 140, 19, 1};
        for (int what = 0; what <= 9; what++) {
            due(less[what], w.count(what));
        }
    }

    @Says(at = "Promise 59", value = "Throws IllegalArgumentException if what is not 0 to 9")
    static void refusesWhatOfCount() {
        bounds(ARGUMENT, Edges::lived, 0, 9, (w, x) -> w.count(x));
        bounds(ARGUMENT, NOTHING, 0, 9, (w, x) -> w.count(x));
    }

    // ---- 60. isSound, 61. digest

    private static void sound(Steps steps) {
        due(true, made(steps).isSound());
    }

    @Says(at = "Promise 60", value = "Returns whether all of this is so: of each SERIES, in the 60 DAYS from START on (of the WALL), next(), again and"
        + " again, finds just the DAYS that tested by the words of the RULE are RULE DAYS, many() tells as many, and kth() the first of them;")
    static void soundRules() {
        sound(NOTHING);
        int[][] rules = {{0, 1, 0, 0}, {0, 60, 0, 0}, {1, 1, 127, 0}, {1, 60, 64, 0}, {2, 1, 31, 0}, {2, 1, -31, 1}, {2, 12, 30, 0},
            {3, 1, 127, 8}, {3, 1, 1, -8}, {3, 7, 85, -5}, {4, 1, 229, 1}, {4, 1, 1231, 0}, {5, 1, -80, 0}, {5, 60, 240, 0}};
        for (int[] r : rules) {
            // START at the wall's beginning, in a leap year and another, and so that the wall ends before 60 DAYS are over, or just then.
            for (int start : new int[] {0, 31, 59, 366, 400, LAST - 60, LAST - 59, LAST - 58, LAST - 1, LAST}) {
                sound(w -> w.series(r[0], r[1], r[2], r[3], start));
                // LAST within, at the end of, and after these DAYS.
                for (int till : new int[] {0, 1, 58, 59, 60}) {
                    sound(w -> {
                        w.series(r[0], r[1], r[2], r[3], start);
                        w.until(0, Math.min(LAST, start + till));
                    });
                }
            }
        }
        // EXCEPTIONS do not make it less so, nor LAST ahead of the first RULE DAY.
        sound(w -> {
            w.series(1, 1, 1, 0, 0);
            w.strike(0, 2);
            w.move(0, 9, 9, 0);
            w.holiday(4, 117, 0);
            w.skips(0, true);
        });
        sound(w -> {
            w.series(1, 1, 1, 0, 3);
            w.until(0, 8);
        });
        sound(Edges::tenSeries);
    }

    @Says(at = "Promise 60", value = "its TEXT has no FAULT; of no two MEETINGS that STAND with one ROOM a minute is the same;")
    static void soundTextsAndRooms() {
        sound(w -> {
            w.series(5, 60, -80, 0, LAST);
            w.time(0, 1439, 1);
            w.people(0, 63);
            w.skips(0, true);
            w.series(3, 1, 127, -8, 12345);
            w.time(1, 0, 1440);
        });
        // One ends where another begins; one of the same TIME is CANCELLED, has another ROOM, or none.
        sound(w -> {
            w.meet(0, 0, 4, 720, 60, 0);
            w.cancel(0);
            w.meet(0, 0, 4, 720, 60, 0);
            w.meet(0, 0, 4, 780, 60, 0);
            w.meet(0, 0, 4, 660, 60, 0);
            w.meet(0, 1, 4, 0, 1440, 0);
            w.meet(0, 2, 4, 0, 1440, 0);
            w.meet(0, -1, 4, 0, 1440, 0);
            w.meet(0, -1, 4, 0, 1440, 0);
        });
        sound(w -> {
            for (int k = 0; k < 24; k++) {
                w.meet(k % 6, 0, 9, 60 * k, 60, 0);
            }
        });
    }

    @Says(at = "Promise 60", value = "of each person, on the DAY of the CLOCK, the minutes of HOURS are its FREE ones and those that are BUSY;")
    static void soundPeople() {
        int[][] hours = {{0, 1440}, {540, 1020}, {0, 1}, {1439, 1440}, {600, 601}};
        for (int[] h : hours) {
            for (int day : new int[] {0, 1}) {
                sound(w -> {
                    w.hours(h[0], h[1]);
                    w.travel(60);
                    w.meet(0, 0, day, 0, 1, 2);
                    w.meet(1, 1, day, 1439, 1, 4);
                    w.meet(2, -1, day, 600, 60, 8);
                    w.meet(3, -1, day, 0, 1440, 16);
                    w.answer(3, 4, 2);
                    w.series(0, 1, 0, 0, 0);
                    w.people(0, 63);
                    w.tick(day == 0 ? 1 : 1440);
                });
            }
        }
    }

    @Says(at = "Promise 60", value = "brought together the COPIES are the same whichever begins.")
    static void soundCopies() {
        sound(EdgeRestTest::full);
        sound(w -> {
            full(w);
            w.merge(false);
            notes(w, 0, 9, 9, 9, 9);
            notes(w, 1, 8, 8, 8, 8);
        });
        sound(Edges::lived);
    }

    @Says(at = "Promise 61", value = {"Computes a checksum. A number d starts with 5811; then d becomes d * 31 + v, which wraps around as a 64-bit integer,"
        + " for each v in this order, where c is the DAY of the CLOCK: count() of 0 to 9;", "SERIES by SERIES START, LAST, REMIND, how many EXCEPTIONS,"
        + " on() of c, next() of c (not backwards), kth() of 1 and the length of TEXT;", "MEETING by MEETING ofMeeting() of 0 to 7, and then GUEST by GUEST"
        + " of it ofGuest() of 0 to 3; person by person busy() of c and local() of c and 0;", "TASK by TASK done() of c; ofDay() of c and 7; the lengths of"
        + " notes() of 0 and of 1, of rung(), and of free() of 63 and c; 1 if isSound(), otherwise 0.", "Returns d."})
    static void checksums() {
        List<Steps> walls = new ArrayList<>(List.of(NOTHING, Edges::lived, Edges::tenSeries, w -> meetings(w, 12), w -> tasks(w, 8),
            EdgeRestTest::full));
        walls.add(w -> {
            // Over midnight: c is another DAY from minute 1440 on, and a HOLIDAY.
            lived(w);
            w.holiday(4, 103, 0);
            w.tick(1380);
            w.series(4, 1, 101, 0, LAST);
            w.until(0, 3);
        });
        // Of free() all persons count, the first and the last one too, and of the GUESTS each.
        for (int person : new int[] {0, 5}) {
            walls.add(w -> {
                w.meet(person, -1, 0, 600, 60, 0);
                w.meet(3, 0, 0, 0, 30, 1 << person);
                w.answer(1, person, 1);
            });
        }
        walls.add(w -> w.tick(1439));
        walls.add(w -> w.tick(1440));
        for (Steps steps : walls) {
            due(digestByWords(made(steps)), made(steps).digest());
        }
    }

    /** The checksum in numbers without bounds, wrapped at the end alone; all is asked of a wall by its own calls. */
    private static long digestByWords(Daywall w) {
        List<Integer> v = new ArrayList<>();
        int c = w.count(6) / 1440;
        for (int what = 0; what <= 9; what++) {
            v.add(w.count(what));
        }
        for (int k = 0; k < w.count(0); k++) {
            String[] words = w.text(k).split(" ");
            v.add(Integer.parseInt(words[4]));
            v.add(Integer.parseInt(words[5]));
            int remind = w.remind(k, -1);
            w.remind(k, remind);
            v.add(remind);
            v.add(exceptions(w, k));
            v.add(w.on(k, c));
            v.add(w.next(k, c, false));
            v.add(w.kth(k, 1));
            v.add(w.text(k).length());
        }
        for (int k = 0; k < w.count(2); k++) {
            for (int what = 0; what <= 7; what++) {
                v.add(w.ofMeeting(k, what));
            }
            for (int person = 0; person <= 5; person++) {
                for (int what = 0; what <= 3 && (w.ofMeeting(k, 6) >> person & 1) == 1; what++) {
                    v.add(w.ofGuest(k, person, what));
                }
            }
        }
        for (int person = 0; person <= 5; person++) {
            v.add(w.busy(person, c));
            v.add(w.local(person, c, 0));
        }
        for (int k = 0; k < w.count(4); k++) {
            v.add(w.done(k, c));
        }
        v.add(w.ofDay(c, 7));
        v.add(w.notes(0).length());
        v.add(w.notes(1).length());
        v.add(w.rung().length());
        v.add(w.free(63, c).length());
        v.add(w.isSound() ? 1 : 0);
        BigInteger d = BigInteger.valueOf(5811);
        for (int number : v) {
            d = d.multiply(BigInteger.valueOf(31)).add(BigInteger.valueOf(number));
        }
        return d.longValue();
    }

    /** How many EXCEPTIONS a SERIES has, looked for on the walls' first DAYS. */
    private static int exceptions(Daywall w, int series) {
        int found = 0;
        for (int day = 0; day < 8; day++) {
            int kind = w.on(series, day) % 8;
            found += kind == 2 || kind == 3 ? 1 : 0;
        }
        return found;
    }

    // ---- the two sentences about exceptions

    @Says(at = "Description", value = "A method that throws an exception changes nothing.")
    static void exceptionsChangeNothing() {
        Steps steps = w -> {
            lived(w);
            w.answer(0, 1, 0);
            w.ask(0, 1, 3, 620);
            w.cancel(2);
        };
        Call[] index = {w -> w.time(3, 0, 1), w -> w.people(3, 1), w -> w.until(3, 5), w -> w.often(3, 1), w -> w.skips(3, true), w -> w.strike(3, 5),
            w -> w.move(3, 5, 5, 5), w -> w.mend(3, 3), w -> w.cut(3, 5), w -> w.join(0, 3), w -> w.join(3, 0), w -> w.drop(3), w -> w.copy(3),
            w -> w.remind(3, 5), w -> w.meet(6, 0, 9, 0, 1, 0), w -> w.meet(0, 3, 9, 0, 1, 0), w -> w.meet(0, 0, LAST + 1, 0, 1, 0),
            w -> w.put(4, 9, 0), w -> w.put(0, LAST + 1, 0), w -> w.cancel(4), w -> w.answer(4, 1, 1), w -> w.answer(0, 6, 1),
            w -> w.ask(0, 6, 9, 0), w -> w.ask(0, 1, LAST + 1, 0), w -> w.agree(0, 6), w -> w.hand(0, 6, 3), w -> w.hand(0, 1, 6),
            w -> w.zone(6, 5, 5), w -> w.zone(0, LAST + 1, 5), w -> w.need(3, 0), w -> w.need(0, 3), w -> w.note(2, 1, 9), w -> w.note(0, 10, 9),
            w -> w.erase(2, 1), w -> w.erase(0, 10), w -> w.on(3, 5), w -> w.next(0, LAST + 1, true), w -> w.busy(6, 3), w -> w.done(3, 3)};
        Call[] argument = {w -> w.day(1999, 1, 1), w -> w.easter(2100), w -> w.holiday(4, 230, 0), w -> w.series(0, 61, 0, 0, 0), w -> w.time(0, 0, 1441),
            w -> w.people(0, 64), w -> w.until(1, 2), w -> w.often(0, 401), w -> w.move(0, 5, LAST + 1, 0), w -> w.move(0, 5, 9, 1396),
            w -> w.remind(0, 1441), w -> w.meet(0, 0, 9, 0, 1441, 0), w -> w.meet(0, 0, 9, 0, 1, 1), w -> w.put(0, 9, 1381), w -> w.answer(0, 1, 4),
            w -> w.ask(0, 1, 9, 1381), w -> w.hours(10, 10), w -> w.travel(61), w -> w.tick(0), w -> w.tick(20161), w -> w.zone(0, 5, 841),
            w -> w.task(21), w -> w.note(0, 1, 100), w -> w.count(10), w -> w.spoiled(0, 0, 12), w -> w.free(64, 0), w -> w.propose(0, 0, 0, 60)};
        Call[] state = {w -> w.time(0, 0, 46), w -> w.strike(0, 3), w -> w.strike(0, LAST + 1), w -> w.move(0, 4, 9, 0), w -> w.mend(0, 5),
            w -> w.cut(0, 0), w -> w.cut(0, LAST + 1), w -> w.join(0, 1), w -> w.join(0, 0), w -> w.put(3, 9, 0), w -> w.cancel(3),
            w -> w.answer(0, 5, 1), w -> w.answer(2, 4, 1), w -> w.ask(1, 5, 9, 0), w -> w.ask(2, 4, 9, 0), w -> w.agree(1, 2), w -> w.agree(0, 2),
            w -> w.hand(0, 1, 2), w -> w.hand(0, 1, 0), w -> w.hand(2, 4, 3), w -> w.need(0, 1), w -> w.need(2, 0), w -> w.need(1, 1),
            w -> w.erase(1, 9)};
        for (Call call : index) {
            refused(INDEX, steps, call);
        }
        for (Call call : argument) {
            refused(ARGUMENT, steps, call);
        }
        for (Call call : state) {
            refused(STATE, steps, call);
        }
    }

    @Says(at = "Description", value = "A method that throws an exception changes nothing.")
    static void exceptionsOfFullWallsChangeNothing() {
        Steps full = w -> {
            tenSeries(w);
            meetings(w, 24);
            tasks(w, 8);
            for (int k = 0; k < 8; k++) {
                w.zone(0, k, k);
            }
            for (int k = 0; k < 6; k++) {
                w.holiday(4, 120 + k, 0);
            }
            for (int k = 0; k < 11; k++) {
                w.strike(0, 20 + k);
            }
        };
        Call[] state = {w -> w.series(0, 1, 0, 0, 0), w -> w.copy(0), w -> w.cut(0, 5), w -> w.meet(0, -1, 0, 0, 1, 0), w -> w.task(1),
            w -> w.zone(0, 9, 9), w -> w.holiday(4, 101, 0), w -> w.strike(0, 2), w -> w.move(0, 2, 2, 0)};
        for (Call call : state) {
            refused(STATE, full, call);
        }
    }

    @Says(at = "Description", value = "If several exceptions apply, the one that is named first is thrown.")
    static void noSuchOneIsNamedAheadOfWrongArguments() {
        Call[] calls = {w -> w.ofDay(-1, 8), w -> w.ofDay(LAST + 1, -1), w -> w.months(-1, 1201), w -> w.months(LAST + 1, -1201),
            w -> w.between(-1, -2, 0), w -> w.between(0, LAST + 1, 3), w -> w.between(LAST + 1, 0, 0), w -> w.between(5, -1, 0),
            w -> w.time(3, -1, 0), w -> w.people(3, 64), w -> w.until(3, -1), w -> w.often(3, 401), w -> w.often(-1, 0),
            w -> w.move(3, 5, LAST + 1, 0), w -> w.move(3, 5, 0, -1), w -> w.remind(3, 1441), w -> w.kth(3, 401), w -> w.many(3, 5, 4),
            w -> w.many(0, -1, 4001), w -> w.many(0, 5, -1), w -> w.many(0, LAST + 1, 0), w -> w.spoiled(3, 0, 12), w -> w.spoiled(0, -1, 12),
            w -> w.spoiled(0, 99, -1), w -> w.differs(3, 0, 5, 4), w -> w.differs(0, 3, 0, 401), w -> w.differs(0, 1, -1, 500),
            w -> w.differs(0, 1, 0, LAST + 1), w -> w.agenda(-1, 13), w -> w.agenda(0, LAST + 1), w -> w.agenda(LAST + 1, 0),
            w -> w.meet(-1, 0, 0, 1440, 1, 0), w -> w.meet(6, 0, 0, 0, 0, 64), w -> w.meet(0, 3, 0, 0, 1, 1), w -> w.meet(0, 0, -1, -1, 1, 0),
            w -> w.put(4, 0, -1), w -> w.put(0, LAST + 1, 1440), w -> w.answer(4, 1, 4), w -> w.answer(0, 6, -1), w -> w.ask(4, 1, 0, -1),
            w -> w.ask(0, 6, 0, 1440), w -> w.ask(0, 1, -1, -1), w -> w.ofMeeting(4, 8), w -> w.ofGuest(4, 0, 4), w -> w.ofGuest(0, 6, 4),
            w -> w.free(0, -1), w -> w.free(64, LAST + 1), w -> w.propose(0, 0, -1, 0), w -> w.propose(1, 64, LAST + 1, 1),
            w -> w.zone(6, 0, 841), w -> w.zone(0, -1, -721), w -> w.local(6, 0, 1440), w -> w.local(0, LAST + 1, -1), w -> w.note(2, 0, 100),
            w -> w.note(0, 10, -1)};
        for (Call call : calls) {
            refused(INDEX, Edges::lived, call);
        }
    }

    @Says(at = "Description", value = "If several exceptions apply, the one that is named first is thrown.")
    static void noSuchOneIsNamedAheadOfStates() {
        // A full wall: all that could be refused for being full is; number 3 is CANCELLED.
        Steps full = w -> {
            tenSeries(w);
            meetings(w, 24);
            w.cancel(3);
            tasks(w, 8);
            for (int k = 0; k < 8; k++) {
                w.zone(0, k, k);
            }
        };
        Call[] calls = {w -> w.strike(10, -1), w -> w.strike(-1, 1), w -> w.move(10, -1, 0, 0), w -> w.mend(10, 0), w -> w.cut(10, 0), w -> w.cut(-1, 5),
            w -> w.join(10, 0), w -> w.join(0, 10), w -> w.join(-1, -1), w -> w.copy(10), w -> w.copy(-1), w -> w.often(10, 1), w -> w.time(10, 0, 1),
            w -> w.meet(6, -1, 0, 0, 1, 0), w -> w.meet(0, 3, 0, 0, 1, 0), w -> w.meet(0, -1, LAST + 1, 0, 1, 0), w -> w.put(24, 0, 0),
            w -> w.put(3, -1, 0), w -> w.cancel(24), w -> w.answer(3, 6, 1), w -> w.answer(24, 0, 1), w -> w.ask(3, 6, 0, 0), w -> w.ask(3, 1, -1, 0),
            w -> w.agree(3, 6), w -> w.agree(24, 0), w -> w.hand(3, 6, 0), w -> w.hand(3, 1, 6), w -> w.hand(3, 0, -1), w -> w.ofGuest(24, 0, 0),
            w -> w.ofGuest(3, -1, 0), w -> w.zone(6, 9, 0), w -> w.zone(0, LAST + 1, 0), w -> w.need(8, 8), w -> w.need(0, 8), w -> w.need(-1, 0),
            w -> w.erase(2, 0), w -> w.erase(0, 10)};
        for (Call call : calls) {
            refused(INDEX, full, call);
        }
    }

    @Says(at = "Description", value = "If several exceptions apply, the one that is named first is thrown.")
    static void wrongArgumentsAreNamedAheadOfStates() {
        Steps steps = w -> {
            nineSeries(w);
            w.series(5, 1, 0, 0, 0);
            w.move(0, 9, 9, 1380);
            meetings(w, 24);
            w.cancel(3);
            tasks(w, 8);
            for (int k = 0; k < 8; k++) {
                w.zone(0, k, k);
            }
            for (int k = 0; k < 6; k++) {
                w.holiday(4, 120 + k, 0);
            }
        };
        Call[] calls = {w -> w.holiday(3, 101, 0), w -> w.holiday(4, 230, 0), w -> w.holiday(5, 0, 1), w -> w.series(6, 1, 0, 0, 0),
            w -> w.series(0, 61, 0, 0, 0), w -> w.series(0, 1, 1, 0, 0), w -> w.series(0, 1, 0, 1, 0), w -> w.series(0, 1, 0, 0, LAST + 1),
            w -> w.time(0, 1440, 61), w -> w.time(0, 1000, 441), w -> w.time(0, -1, 1440), w -> w.often(9, 401), w -> w.often(9, 0),
            w -> w.move(0, -1, -1, 0), w -> w.move(0, 9, 0, 1381), w -> w.move(0, 1, LAST + 1, 0), w -> w.move(0, LAST + 1, 0, -1),
            w -> w.meet(0, -1, 0, 1440, 1, 0), w -> w.meet(0, -1, 0, 0, 1441, 0), w -> w.meet(0, -1, 0, 0, 1, 1), w -> w.meet(0, -1, 0, 0, 1, 64),
            w -> w.put(3, 0, 1381), w -> w.put(3, 0, -1), w -> w.answer(3, 1, 4), w -> w.answer(0, 5, -1), w -> w.ask(3, 1, 0, 1381),
            w -> w.ask(0, 5, 0, -1), w -> w.ask(0, 2, 0, 1381), w -> w.ofGuest(0, 5, 4), w -> w.ofGuest(0, 0, -1), w -> w.zone(0, 9, 841),
            w -> w.zone(0, 9, -721), w -> w.task(0), w -> w.task(21), w -> w.tick(0)};
        for (Call call : calls) {
            refused(ARGUMENT, steps, call);
        }
    }

    public static void main(String[] args) {
        run(EdgeRestTest.class);
    }
}
