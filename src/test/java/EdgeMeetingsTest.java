/** The edges of the Description's part 3, and of the promises 33 to 41. */
public final class EdgeMeetingsTest extends Edges {
    private static final String MEETINGS = "3. Meetings";
    private static final int NOON = time(4, 720);
    private static final int[] NO_PERSONS = {-1, -2, 6, 7, 32, 33, LEAST, LEAST + 1, MOST};

    /** Number 0 on DAY 4 from 720 to 780 in room 1: OWNER 0, GUESTS 1 and 2. */
    private static void one(Daywall w) {
        w.meet(0, 1, 4, 720, 60, 6);
    }

    /** The same, and both GUESTS have SEEN it: 1 says yes, and asks for DAY 5 at 600; 2 says no. */
    private static void seen(Daywall w) {
        one(w);
        w.answer(0, 1, 1);
        w.ask(0, 1, 5, 600);
        w.answer(0, 2, 2);
    }

    private static void cancelled(Daywall w) {
        seen(w);
        w.cancel(0);
    }

    /** SEEN, ANSWER, what he ASKS FOR, and whether he has not SEEN the VERSION. */
    private static void dueGuest(Daywall w, int meeting, int person, int... due) {
        for (int what = 0; what <= 3; what++) {
            due(due[what], w.ofGuest(meeting, person, what));
        }
    }

    private static void dueMeeting(Daywall w, int meeting, int... due) {
        for (int what = 0; what <= 7; what++) {
            due(due[what], w.ofMeeting(meeting, what));
        }
    }

    // ---- 3. Meetings

    @Says(at = MEETINGS, value = "At most 24 MEETINGS, numbered from 0, that STAND till they are CANCELLED.")
    static void twentyFourMeetings() {
        Daywall w = new Daywall();
        for (int k = 0; k < 24; k++) {
            due(k, w.meet(0, -1, 0, 0, 1, 0));
            due(1, w.ofMeeting(k, 0));
        }
        due(23, w.cancel(0));
        due(0, w.ofMeeting(0, 0));
        due(1, w.ofMeeting(1, 0));
        // One that is CANCELLED is a MEETING still, so it makes no room for one, and keeps its number.
        refused(STATE, x -> {
            meetings(x, 24);
            x.cancel(7);
        }, x -> x.meet(0, -1, 0, 0, 1, 0));
        due(24, w.count(2));
        due(23, w.count(3));
    }

    @Says(at = MEETINGS, value = "Each has an OWNER, a ROOM (0 to 2, or NONE), a TIME,")
    static void ownersRoomsAndTimes() {
        for (int room = -1; room <= 2; room++) {
            Daywall w = new Daywall();
            due(0, w.meet(5, room, LAST, 1439, 1, 31));
            due(room, w.ofMeeting(0, 2));
            due(5, w.ofMeeting(0, 1));
            due(time(LAST, 1439), w.ofMeeting(0, 3));
            // The other rooms are free, and without one there is always room.
            for (int other = -1; other <= 2; other++) {
                boolean isInWay = other == room && room != -1;
                due(isInWay ? -2 : w.count(2), w.meet(0, other, LAST, 0, 1440, 0));
            }
        }
    }

    @Says(at = MEETINGS, value = "a LENGTH (all in one DAY),")
    static void allInOneDay() {
        for (int minute : new int[] {0, 1, 720, 1439}) {
            bounds(ARGUMENT, Edges::lived, 1, 1440 - minute, (w, x) -> w.meet(0, -1, 9, minute, x, 0));
        }
        for (int length : new int[] {1, 60, 1439, 1440}) {
            Steps steps = w -> w.meet(0, -1, 9, 0, length, 2);
            bounds(ARGUMENT, steps, 0, 1440 - length, (w, x) -> w.put(0, 9, x));
            bounds(ARGUMENT, w -> {
                steps.on(w);
                w.answer(0, 1, 0);
            }, 0, 1440 - length, (w, x) -> w.ask(0, 1, 9, x));
        }
    }

    @Says(at = MEETINGS, value = "a VERSION (1 at first),")
    static void versionAtFirst() {
        due(1, made(EdgeMeetingsTest::one).ofMeeting(0, 5));
        due(1, made(EdgeMeetingsTest::one).answer(0, 1, 0));
    }

    @Says(at = MEETINGS, value = "and GUESTS (PEOPLE, the OWNER is none).")
    static void ownerIsNoGuest() {
        for (int owner = 0; owner <= 5; owner++) {
            int person = owner;
            for (int guests = 0; guests <= 63; guests++) {
                int set = guests;
                if ((guests >> owner & 1) == 1) {
                    refused(ARGUMENT, NOTHING, w -> w.meet(person, 0, 0, 0, 1, set));
                } else {
                    Daywall w = new Daywall();
                    w.meet(owner, 0, 0, 0, 1, guests);
                    due(guests, w.ofMeeting(0, 6));
                }
            }
            refused(STATE, w -> w.meet(person, 0, 0, 0, 1, 63 - (1 << person)), w -> w.ofGuest(0, person, 0));
            refused(STATE, w -> w.meet(person, 0, 0, 0, 1, 63 - (1 << person)), w -> w.answer(0, person, 1));
        }
    }

    @Says(at = MEETINGS, value = {"Of each GUEST: SEEN, the VERSION that he has seen last (0 at first),",
        "his ANSWER (0 none, 1 yes, 2 no, 3 perhaps; 0 at first), the TIME that he ASKS FOR (NONE at first)."})
    static void guestsAtFirst() {
        Daywall w = new Daywall();
        w.meet(3, 0, 0, 0, 60, 55);
        for (int person : new int[] {0, 1, 2, 4, 5}) {
            dueGuest(w, 0, person, 0, 0, -1, 1);
        }
        due(0, w.ofMeeting(0, 7));
        for (int guest = 0; guest <= 2; guest++) {
            w.answer(0, guest, guest + 1);
            dueGuest(w, 0, guest, 1, guest + 1, -1, 0);
        }
        dueGuest(w, 0, 4, 0, 0, -1, 1);
    }

    @Says(at = MEETINGS, value = "A GUEST who looks has SEEN the VERSION; if it is another one than before, his ANSWER is 0 again,"
        + " and he ASKS FOR nothing")
    static void looksAtAnotherVersion() {
        Daywall w = made(EdgeMeetingsTest::seen);
        w.put(0, 4, 720);
        dueGuest(w, 0, 1, 1, 3, -1, 1);
        due(2, w.answer(0, 1, 0));
        dueGuest(w, 0, 1, 2, 0, -1, 0);
        dueGuest(w, 0, 2, 1, 2, -1, 1);
        // Two VERSIONS on, and answering at once.
        w.put(0, 4, 721);
        w.put(0, 4, 722);
        due(4, w.answer(0, 2, 3));
        dueGuest(w, 0, 2, 4, 3, -1, 0);
        dueGuest(w, 0, 1, 2, 0, -1, 1);
    }

    @Says(at = MEETINGS, value = "(otherwise both stay).")
    static void looksAtTheSameVersion() {
        Daywall w = made(EdgeMeetingsTest::seen);
        due(1, w.answer(0, 1, 0));
        dueGuest(w, 0, 1, 1, 3, time(5, 600), 0);
        due(1, w.answer(0, 2, 0));
        dueGuest(w, 0, 2, 1, 2, -1, 0);
        due(1, w.answer(0, 1, 2));
        dueGuest(w, 0, 1, 1, 2, time(5, 600), 0);
    }

    @Says(at = MEETINGS, value = "Till he looks, what he answered to an older one is told.")
    static void toldTillHeLooks() {
        Daywall w = made(EdgeMeetingsTest::seen);
        w.answer(0, 1, 1);
        w.put(0, 6, 0);
        due(1, w.ofGuest(0, 1, 1));
        due(2, w.ofGuest(0, 2, 1));
        due(60, w.busy(1, 6));
        due(0, w.busy(2, 6));
        due(0, w.ofMeeting(0, 7));
        // A no to an older one is a no: he is not BUSY till he looks.
        w.answer(0, 2, 0);
        due(60, w.busy(2, 6));
    }

    @Says(at = MEETINGS, value = "In the way of a MEETING that is to have a ROOM at a TIME is the earliest other one that STANDS with that ROOM,")
    static void earliestInTheWay() {
        // Told in another order than that of their TIMES: 1 at 600, 0 at 720, 3 at 780 (2 is CANCELLED, 4 has another room).
        Steps steps = w -> {
            w.meet(0, 1, 4, 720, 60, 0);
            w.meet(0, 1, 4, 600, 60, 0);
            w.meet(0, 1, 4, 540, 30, 0);
            w.cancel(2);
            w.meet(0, 1, 4, 780, 60, 0);
            w.meet(0, 2, 4, 0, 1440, 0);
            w.meet(0, -1, 4, 0, 1440, 0);
            w.meet(0, 1, 5, 0, 60, 0);
        };
        due(-3, made(steps).meet(0, 1, 4, 0, 1440, 0));
        due(-3, made(steps).meet(0, 1, 4, 540, 200, 0));
        due(-2, made(steps).meet(0, 1, 4, 660, 780, 0));
        due(-5, made(steps).meet(0, 1, 4, 780, 1, 0));
        due(-6, made(steps).meet(0, 2, 4, 780, 1, 0));
        due(7, made(steps).meet(0, 1, 4, 540, 60, 0));
        due(7, made(steps).meet(0, -1, 4, 0, 1440, 0));
        due(-8, made(steps).meet(0, 1, 5, 30, 60, 0));
        // It is not in its own way: moved by a minute, or put where it is.
        due(2, made(steps).put(3, 4, 780));
        due(2, made(steps).put(3, 4, 800));
        due(-3, made(steps).put(3, 4, 659));
        due(-2, made(steps).put(3, 4, 670));
        due(2, made(steps).put(1, 4, 601));
        due(-2, made(steps).put(1, 4, 661));
        // Without a ROOM nothing is in the way of it, nor is it in the way of others.
        due(2, made(steps).put(5, 4, 0));
        due(2, made(steps).put(6, 6, 0));
    }

    @Says(at = MEETINGS, value = "of which a minute is one of its minutes.")
    static void oneCommonMinute() {
        // 720 to 780 is taken: one that ends where it begins, or begins where it ends, is not in its way.
        int[][] spans = {{660, 60, 1}, {660, 61, -2}, {719, 1, 1}, {719, 2, -2}, {720, 1, -2}, {779, 1, -2}, {780, 1, 1}, {780, 660, 1},
            {779, 661, -2}, {0, 720, 1}, {0, 721, -2}, {0, 1440, -2}, {730, 10, -2}, {720, 60, -2}, {719, 62, -2}};
        for (int[] s : spans) {
            due(s[2], made(EdgeMeetingsTest::one).meet(3, 1, 4, s[0], s[1], 0));
            due(1, made(EdgeMeetingsTest::one).meet(3, 1, 3, s[0], s[1], 0));
            due(1, made(EdgeMeetingsTest::one).meet(3, 1, 5, s[0], s[1], 0));
            Daywall w = made(EdgeMeetingsTest::one);
            w.meet(3, 1, 9, 0, s[1], 0);
            due(s[2] == 1 ? 2 : -2, w.put(1, 4, s[0]));
        }
    }

    @Says(at = MEETINGS, value = "With one in the way it is refused (exceptions go ahead of that): the answer is -2 less the number of that one,")
    static void refusedAnswers() {
        for (int number : new int[] {0, 1, 22, 23}) {
            Daywall w = new Daywall();
            for (int k = 0; k < 24; k++) {
                w.meet(0, 0, 100 + k, 0, 1440, 2);
                w.answer(k, 1, 0);
            }
            int other = number == 0 ? 1 : 0;
            due(-2 - number, w.put(other, 100 + number, 0));
            w.ask(other, 1, 100 + number, 0);
            due(-2 - number, w.agree(other, 1));
        }
        for (int number = 0; number < 23; number++) {
            Daywall w = new Daywall();
            for (int k = 0; k < 23; k++) {
                w.meet(0, 0, 100 + k, 0, 1440, 0);
            }
            due(-2 - number, w.meet(0, 0, 100 + number, 1439, 1, 0));
        }
        // Each exception goes ahead: with 24 MEETINGS, CANCELLED, a minute too late.
        Steps full = w -> {
            for (int k = 0; k < 24; k++) {
                w.meet(0, 0, 100 + k, 0, 1440, 0);
            }
        };
        refused(STATE, full, w -> w.meet(0, 0, 100, 0, 1, 0));
        Steps taken = w -> {
            seen(w);
            w.meet(0, 1, 5, 600, 60, 0);
            w.cancel(0);
        };
        refused(STATE, taken, w -> w.put(0, 5, 600));
        refused(STATE, taken, w -> w.agree(0, 1));
        refused(ARGUMENT, EdgeMeetingsTest::one, w -> w.meet(0, 1, 4, 720, 721, 0));
        refused(ARGUMENT, EdgeMeetingsTest::one, w -> w.meet(1, 1, 4, 720, 60, 2));
    }

    @Says(at = MEETINGS, value = "and nothing is changed.")
    static void refusedChangesNothing() {
        Steps steps = w -> {
            lived(w);
            w.answer(0, 1, 0);
            w.ask(0, 1, 3, 620);
        };
        changesNothing(-3, steps, w -> w.meet(0, 1, 3, 610, 60, 0));
        changesNothing(-2, steps, w -> w.meet(4, 1, 2, 0, 1440, 1));
        changesNothing(-3, steps, w -> w.put(0, 3, 600));
        changesNothing(-2, steps, w -> w.put(1, 2, 659));
        changesNothing(-3, steps, w -> w.agree(0, 1));
    }

    @Says(at = MEETINGS, value = "Put to another TIME (or the same) a MEETING has a VERSION greater by 1, and nobody ASKS FOR anything.")
    static void putAnywhere() {
        int[][] times = {{4, 720}, {4, 721}, {0, 0}, {LAST, 1380}, {4, 720}};
        Daywall w = made(EdgeMeetingsTest::seen);
        w.ask(0, 2, 6, 0);
        int version = 1;
        for (int[] t : times) {
            version++;
            due(version, w.put(0, t[0], t[1]));
            dueMeeting(w, 0, 1, 0, 1, time(t[0], t[1]), 60, version, 6, 0);
            dueGuest(w, 0, 1, version - 1, version == 2 ? 3 : 0, -1, 1);
            dueGuest(w, 0, 2, 1, 3, -1, 1);
            w.answer(0, 1, 0);
        }
        // Agreed to, it is put, too.
        Daywall v = made(EdgeMeetingsTest::seen);
        v.ask(0, 2, 4, 720);
        due(2, v.agree(0, 2));
        dueMeeting(v, 0, 1, 0, 1, NOON, 60, 2, 6, 4);
        dueGuest(v, 0, 1, 1, 3, -1, 1);
        dueGuest(v, 0, 2, 2, 1, -1, 0);
    }

    @Says(at = MEETINGS, value = "Who handed on a MEETING once, does not get it again.")
    static void notAgain() {
        // 1 hands on to 3, 3 to 4, 2 to 5: none of the three gets it, from whomever.
        Steps steps = w -> {
            one(w);
            w.hand(0, 1, 3);
            w.hand(0, 3, 4);
            w.hand(0, 2, 5);
            w.put(0, 9, 0);
        };
        for (int other = 1; other <= 3; other++) {
            int to = other;
            refused(STATE, steps, w -> w.hand(0, 4, to));
            refused(STATE, steps, w -> w.hand(0, 5, to));
        }
        // Another MEETING he may get.
        Daywall w = made(steps);
        due(1, w.meet(0, -1, 4, 0, 1, 32));
        due(2, w.hand(1, 5, 1));
        due(4, w.hand(1, 1, 2));
    }

    // ---- 33. meet

    @Says(at = "Promise 33", value = {"A MEETING; it may be refused a ROOM.", "room: ROOM, or NONE",
        "Returns its number, or -2 less the number of the one in its way."})
    static void newMeetings() {
        Daywall w = new Daywall();
        due(0, w.meet(0, 0, 0, 0, 1440, 62));
        due(-2, w.meet(1, 0, 0, 1439, 1, 0));
        due(1, w.meet(5, 2, LAST, 1439, 1, 31));
        due(-3, w.meet(5, 2, LAST, 1439, 1, 31));
        due(2, w.meet(5, -1, LAST, 1439, 1, 31));
        due(3, w.meet(0, 0, 1, 0, 1, 0));
        dueMeeting(w, 0, 1, 0, 0, 0, 1440, 1, 62, 0);
        dueMeeting(w, 1, 1, 5, 2, time(LAST, 1439), 1, 1, 31, 0);
        dueMeeting(w, 2, 1, 5, -1, time(LAST, 1439), 1, 1, 31, 0);
        due(4, w.count(2));
    }

    @Says(at = "Promise 33", value = "Throws IndexOutOfBoundsException if there is no such person as owner, or room is not NONE to 2,"
        + " or the WALL has no such DAY")
    static void refusesPersonRoomAndDay() {
        persons(Edges::lived, (w, x) -> w.meet(x, -1, 0, 0, 1, 0));
        bounds(INDEX, Edges::lived, -1, 2, (w, x) -> w.meet(0, x, 0, 0, 1, 0));
        days(Edges::lived, (w, x) -> w.meet(0, 0, x, 0, 1, 0));
    }

    @Says(at = "Promise 33", value = "Throws IllegalArgumentException if minute is not 0 to 1439, length not 1 to 1440 - minute,"
        + " or guests not 0 to 63, or with the OWNER")
    static void refusesMinuteLengthAndGuests() {
        bounds(ARGUMENT, Edges::lived, 0, 1439, (w, x) -> w.meet(0, -1, 0, x, 1, 0));
        bounds(ARGUMENT, Edges::lived, 0, 1380, (w, x) -> w.meet(0, -1, 0, x, 60, 0));
        bounds(ARGUMENT, Edges::lived, 1, 1440, (w, x) -> w.meet(0, -1, 0, 0, x, 0));
        bounds(ARGUMENT, Edges::lived, 1, 1, (w, x) -> w.meet(0, -1, 0, 1439, x, 0));
        bounds(ARGUMENT, Edges::lived, 0, 31, (w, x) -> w.meet(5, -1, 0, 0, 1, x));
        for (int guests : new int[] {64, -1, -2, 62 + 64, 128, LEAST, MOST, MOST - 1}) {
            refused(ARGUMENT, Edges::lived, w -> w.meet(0, -1, 0, 0, 1, guests));
        }
        let(Edges::lived, w -> w.meet(0, -1, 0, 0, 1, 62));
        refused(ARGUMENT, Edges::lived, w -> w.meet(0, -1, 0, 0, 1, 63));
        refused(ARGUMENT, Edges::lived, w -> w.meet(0, -1, 0, 0, 1, 1));
        refused(ARGUMENT, Edges::lived, w -> w.meet(3, -1, 0, 0, 1, 8));
    }

    @Says(at = "Promise 33", value = "Throws IllegalStateException if there are 24")
    static void refusesTwentyFifthMeeting() {
        let(w -> meetings(w, 23), w -> w.meet(0, -1, 0, 0, 1, 0));
        refused(STATE, w -> meetings(w, 24), w -> w.meet(0, -1, 0, 0, 1, 0));
        refused(STATE, w -> meetings(w, 24), w -> w.meet(5, 2, LAST, 1439, 1, 31));
    }

    // ---- 34. put, 35. cancel

    @Says(at = "Promise 34", value = {"Puts a MEETING to another TIME (or the same); it may be refused its ROOM.",
        "Returns VERSION then, or -2 less the number of the one in its way."})
    static void putMeetings() {
        Daywall w = made(EdgeMeetingsTest::one);
        w.meet(0, 1, 4, 780, 60, 0);
        due(-3, w.put(0, 4, 721));
        due(-2, w.put(1, 4, 779));
        due(2, w.put(0, 4, 720));
        due(3, w.put(0, 4, 0));
        due(2, w.put(1, 4, 60));
        due(-3, w.put(0, 4, 1));
        due(4, w.put(0, LAST, 1380));
        due(time(LAST, 1380), w.ofMeeting(0, 3));
    }

    @Says(at = "Promise 34", value = "Throws IndexOutOfBoundsException if there is no such MEETING, or the WALL has no such DAY")
    static void refusesMeetingAndDayOfPut() {
        meetingNumbers((w, x) -> w.put(x, 0, 0));
        days(EdgeMeetingsTest::seen, (w, x) -> w.put(0, x, 0));
    }

    @Says(at = "Promise 34", value = "Throws IllegalArgumentException if minute is not 0 to 1440 - LENGTH")
    static void refusesMinuteOfPut() {
        bounds(ARGUMENT, EdgeMeetingsTest::seen, 0, 1380, (w, x) -> w.put(0, 9, x));
        bounds(ARGUMENT, w -> w.meet(0, 0, 0, 0, 1440, 0), 0, 0, (w, x) -> w.put(0, 9, x));
        bounds(ARGUMENT, w -> w.meet(0, 0, 0, 0, 1, 0), 0, 1439, (w, x) -> w.put(0, LAST, x));
    }

    @Says(at = "Promise 34", value = "Throws IllegalStateException if it is CANCELLED")
    static void refusesCancelledOfPut() {
        let(EdgeMeetingsTest::seen, w -> w.put(0, 4, 720));
        refused(STATE, EdgeMeetingsTest::cancelled, w -> w.put(0, 4, 720));
        refused(STATE, EdgeMeetingsTest::cancelled, w -> w.put(0, 9, 0));
    }

    @Says(at = "Promise 35", value = {"A MEETING is CANCELLED.", "Returns how many STAND then."})
    static void cancelledMeetings() {
        Daywall w = new Daywall();
        meetings(w, 24);
        int stand = 24;
        for (int k : new int[] {23, 0, 12, 1, 22}) {
            stand--;
            due(stand, w.cancel(k));
            due(0, w.ofMeeting(k, 0));
            due(stand, w.count(3));
            due(24, w.count(2));
        }
        // It is not BUSY any more, not in the way, not in the agenda; what else it was is told still.
        Daywall v = made(EdgeMeetingsTest::seen);
        due(0, v.cancel(0));
        due(0, v.busy(0, 4) + v.busy(1, 4));
        due("", v.agenda(4, 4));
        dueMeeting(v, 0, 0, 0, 1, NOON, 60, 1, 6, 0);
        dueGuest(v, 0, 1, 1, 3, time(5, 600), 0);
        due(1, v.meet(0, 1, 4, 720, 60, 0));
        due(1, v.count(3));
    }

    @Says(at = "Promise 35", value = "Throws IndexOutOfBoundsException if there is no such MEETING")
    static void refusesMeetingOfCancel() {
        meetingNumbers((w, x) -> w.cancel(x));
    }

    @Says(at = "Promise 35", value = "Throws IllegalStateException if it is CANCELLED")
    static void refusesCancelledOfCancel() {
        refused(STATE, EdgeMeetingsTest::cancelled, w -> w.cancel(0));
    }

    // ---- 36. answer, 37. ask, 38. agree, 39. hand

    @Says(at = "Promise 36", value = {"A GUEST looks, and answers (what he ASKS FOR stays, if he had SEEN the VERSION).", "Returns VERSION."})
    static void answers() {
        Daywall w = made(EdgeMeetingsTest::seen);
        for (int what : new int[] {1, 2, 3, 0, 1}) {
            due(1, w.answer(0, 1, what));
            due(time(5, 600), w.ofGuest(0, 1, 2));
        }
        w.put(0, 4, 720);
        due(2, w.answer(0, 1, 2));
        dueGuest(w, 0, 1, 2, 2, -1, 0);
        due(2, w.ofMeeting(0, 5));
    }

    @Says(at = "Promise 36", value = "what: 0 he looks, no more; otherwise his ANSWER then")
    static void looksOrAnswers() {
        Daywall w = made(EdgeMeetingsTest::one);
        w.answer(0, 1, 0);
        dueGuest(w, 0, 1, 1, 0, -1, 0);
        for (int what = 1; what <= 3; what++) {
            w.answer(0, 1, what);
            dueGuest(w, 0, 1, 1, what, -1, 0);
            w.answer(0, 1, 0);
            dueGuest(w, 0, 1, 1, what, -1, 0);
        }
        dueGuest(w, 0, 2, 0, 0, -1, 1);
    }

    @Says(at = "Promise 36", value = "Throws IndexOutOfBoundsException if there is no such MEETING or person")
    static void refusesMeetingAndPersonOfAnswer() {
        meetingNumbers((w, x) -> w.answer(x, 1, 1));
        for (int person : NO_PERSONS) {
            refused(INDEX, EdgeMeetingsTest::seen, w -> w.answer(0, person, 1));
        }
        for (int person = 1; person <= 5; person++) {
            int guest = person;
            let(w -> w.meet(0, -1, 0, 0, 1, 62), w -> w.answer(0, guest, 1));
        }
    }

    @Says(at = "Promise 36", value = "Throws IllegalArgumentException if what is not 0 to 3")
    static void refusesWhatOfAnswer() {
        bounds(ARGUMENT, EdgeMeetingsTest::seen, 0, 3, (w, x) -> w.answer(0, 1, x));
    }

    @Says(at = "Promise 36", value = "Throws IllegalStateException if it is CANCELLED, or person is no GUEST of it")
    static void refusesAnswers() {
        for (int what = 0; what <= 3; what++) {
            int k = what;
            refused(STATE, EdgeMeetingsTest::cancelled, w -> w.answer(0, 1, k));
            for (int person : new int[] {0, 3, 4, 5}) {
                refused(STATE, EdgeMeetingsTest::seen, w -> w.answer(0, person, k));
            }
        }
        refused(STATE, w -> {
            seen(w);
            w.hand(0, 1, 3);
        }, w -> w.answer(0, 1, 1));
    }

    @Says(at = "Promise 37", value = {"A GUEST ASKS FOR another TIME (or the same); his ANSWER is 3 then.", "Returns that TIME."})
    static void asks() {
        Daywall w = made(EdgeMeetingsTest::one);
        w.answer(0, 1, 2);
        due(NOON, w.ask(0, 1, 4, 720));
        dueGuest(w, 0, 1, 1, 3, NOON, 0);
        due(0, w.ask(0, 1, 0, 0));
        due(time(LAST, 1380), w.ask(0, 1, LAST, 1380));
        dueGuest(w, 0, 1, 1, 3, time(LAST, 1380), 0);
        dueMeeting(w, 0, 1, 0, 1, NOON, 60, 1, 6, 0);
        // It may be a TIME at which the ROOM is taken.
        w.meet(0, 1, 5, 0, 1440, 0);
        due(time(5, 0), w.ask(0, 1, 5, 0));
    }

    @Says(at = "Promise 37", value = "Throws IndexOutOfBoundsException if there is no such MEETING or person, or the WALL has no such DAY")
    static void refusesMeetingPersonAndDayOfAsk() {
        meetingNumbers((w, x) -> w.ask(x, 1, 5, 0));
        for (int person : NO_PERSONS) {
            refused(INDEX, EdgeMeetingsTest::seen, w -> w.ask(0, person, 5, 0));
        }
        days(EdgeMeetingsTest::seen, (w, x) -> w.ask(0, 1, x, 0));
    }

    @Says(at = "Promise 37", value = "Throws IllegalArgumentException if minute is not 0 to 1440 - LENGTH")
    static void refusesMinuteOfAsk() {
        bounds(ARGUMENT, EdgeMeetingsTest::seen, 0, 1380, (w, x) -> w.ask(0, 1, LAST, x));
        bounds(ARGUMENT, w -> {
            w.meet(0, 0, 0, 0, 1440, 2);
            w.answer(0, 1, 0);
        }, 0, 0, (w, x) -> w.ask(0, 1, 0, x));
    }

    @Says(at = "Promise 37", value = "Throws IllegalStateException if it is CANCELLED, or person is no GUEST of it, or has not SEEN its VERSION")
    static void refusesToAsk() {
        refused(STATE, EdgeMeetingsTest::cancelled, w -> w.ask(0, 1, 5, 0));
        for (int person : new int[] {0, 3, 4, 5}) {
            refused(STATE, EdgeMeetingsTest::seen, w -> w.ask(0, person, 5, 0));
        }
        refused(STATE, EdgeMeetingsTest::one, w -> w.ask(0, 1, 5, 0));
        Steps moved = w -> {
            seen(w);
            w.put(0, 4, 720);
        };
        refused(STATE, moved, w -> w.ask(0, 1, 5, 0));
        refused(STATE, moved, w -> w.ask(0, 2, 4, 720));
        // Agreed to, the one has SEEN it, the other has not.
        Steps agreed = w -> {
            seen(w);
            w.agree(0, 1);
        };
        let(agreed, w -> w.ask(0, 1, 5, 0));
        refused(STATE, agreed, w -> w.ask(0, 2, 5, 0));
        // Who has SEEN it, and handed it on, is no GUEST any more; who got it has not SEEN it.
        for (int person : new int[] {1, 3}) {
            refused(STATE, w -> {
                seen(w);
                w.hand(0, 1, 3);
            }, w -> w.ask(0, person, 5, 0));
        }
    }

    @Says(at = "Promise 38", value = {"The MEETING is put to the TIME that a GUEST ASKS FOR; it may be refused its ROOM.",
        "Returns VERSION then, or -2 less the number of the one in its way."})
    static void agreedOrRefused() {
        Daywall w = made(EdgeMeetingsTest::seen);
        w.meet(0, 1, 5, 0, 600, 0);
        w.meet(0, 1, 5, 659, 1, 0);
        due(-4, w.agree(0, 1));
        dueMeeting(w, 0, 1, 0, 1, NOON, 60, 1, 6, 0);
        dueGuest(w, 0, 1, 1, 3, time(5, 600), 0);
        w.cancel(2);
        due(2, w.agree(0, 1));
        due(time(5, 600), w.ofMeeting(0, 3));
        w.ask(0, 1, 0, 0);
        due(3, w.agree(0, 1));
        due(0, w.ofMeeting(0, 3));
        w.ask(0, 1, 0, 0);
        due(4, w.agree(0, 1));
    }

    @Says(at = "Promise 38", value = "If it is not, that GUEST has SEEN the VERSION then, and his ANSWER is 1.")
    static void agreedHasSeen() {
        Daywall w = made(EdgeMeetingsTest::seen);
        w.ask(0, 2, 6, 0);
        due(2, w.agree(0, 1));
        dueGuest(w, 0, 1, 2, 1, -1, 0);
        dueGuest(w, 0, 2, 1, 3, -1, 1);
        due(2, w.ofMeeting(0, 7));
    }

    @Says(at = "Promise 38", value = "Throws IndexOutOfBoundsException if there is no such MEETING or person")
    static void refusesMeetingAndPersonOfAgree() {
        meetingNumbers((w, x) -> w.agree(x, 1));
        for (int person : NO_PERSONS) {
            refused(INDEX, EdgeMeetingsTest::seen, w -> w.agree(0, person));
        }
    }

    @Says(at = "Promise 38", value = "Throws IllegalStateException if it is CANCELLED, or person is no GUEST of it, or ASKS FOR nothing")
    static void refusesToAgree() {
        refused(STATE, EdgeMeetingsTest::cancelled, w -> w.agree(0, 1));
        for (int person : new int[] {0, 2, 3, 4, 5}) {
            refused(STATE, EdgeMeetingsTest::seen, w -> w.agree(0, person));
        }
        refused(STATE, EdgeMeetingsTest::one, w -> w.agree(0, 1));
        refused(STATE, w -> {
            seen(w);
            w.put(0, 4, 720);
        }, w -> w.agree(0, 1));
        refused(STATE, w -> {
            seen(w);
            w.agree(0, 1);
        }, w -> w.agree(0, 1));
        // He asked, and handed it on: he is none any more, and the new one asks for nothing.
        Steps handed = w -> {
            seen(w);
            w.hand(0, 1, 3);
        };
        refused(STATE, handed, w -> w.agree(0, 1));
        refused(STATE, handed, w -> w.agree(0, 3));
    }

    @Says(at = "Promise 39", value = {"A GUEST hands it on: he is none then, another one is a new one.", "Returns the set of GUESTS then."})
    static void handedOn() {
        Daywall w = made(EdgeMeetingsTest::seen);
        due(4 + 32, w.hand(0, 1, 5));
        dueGuest(w, 0, 5, 0, 0, -1, 1);
        dueGuest(w, 0, 2, 1, 2, -1, 0);
        due(0, w.busy(1, 4));
        due(60, w.busy(5, 4));
        due(1, w.ofMeeting(0, 5));
        due(8 + 32, w.hand(0, 2, 3));
        due(60, w.busy(3, 4));
        due(8 + 16, w.hand(0, 5, 4));
        due(8 + 16, w.ofMeeting(0, 6));
    }

    @Says(at = "Promise 39", value = "Throws IndexOutOfBoundsException if there is no such MEETING, or there is no such person as person or other")
    static void refusesMeetingAndPersonsOfHand() {
        meetingNumbers((w, x) -> w.hand(x, 1, 3));
        for (int person : NO_PERSONS) {
            refused(INDEX, EdgeMeetingsTest::seen, w -> w.hand(0, person, 3));
            refused(INDEX, EdgeMeetingsTest::seen, w -> w.hand(0, 1, person));
            refused(INDEX, EdgeMeetingsTest::seen, w -> w.hand(0, person, person));
        }
    }

    @Says(at = "Promise 39", value = "Throws IllegalStateException if it is CANCELLED, or person is no GUEST of it, or other is one, or its OWNER,"
        + " or has handed it on")
    static void refusesToHandOn() {
        refused(STATE, EdgeMeetingsTest::cancelled, w -> w.hand(0, 1, 3));
        for (int person : new int[] {0, 3, 4, 5}) {
            refused(STATE, EdgeMeetingsTest::seen, w -> w.hand(0, person, person == 5 ? 4 : 5));
        }
        for (int other : new int[] {0, 1, 2}) {
            refused(STATE, EdgeMeetingsTest::seen, w -> w.hand(0, 1, other));
            refused(STATE, EdgeMeetingsTest::seen, w -> w.hand(0, 2, other));
        }
        for (int other : new int[] {3, 4, 5}) {
            let(EdgeMeetingsTest::seen, w -> w.hand(0, 1, other));
        }
        refused(STATE, w -> {
            seen(w);
            w.hand(0, 1, 3);
        }, w -> w.hand(0, 2, 1));
        refused(STATE, w -> {
            seen(w);
            w.hand(0, 1, 3);
        }, w -> w.hand(0, 3, 1));
    }

    // ---- 40. ofMeeting, 41. ofGuest

    @Says(at = "Promise 40", value = {"what: 0 1 if it STANDS, otherwise 0, 1 OWNER, 2 ROOM, 3 TIME, 4 LENGTH, 5 VERSION, 6 the set of GUESTS,"
        + " 7 the set of those who have SEEN its VERSION with ANSWER 1", "Returns that."})
    static void whatOfMeeting() {
        Daywall w = new Daywall();
        w.meet(2, -1, LAST, 1, 1439, 59);
        dueMeeting(w, 0, 1, 2, -1, time(LAST, 1), 1439, 1, 59, 0);
        for (int person : new int[] {0, 1, 3, 4, 5}) {
            w.answer(0, person, person % 4);
        }
        // ANSWERS 0, 1, 3, 0 and 1 of the persons 0, 1, 3, 4 and 5.
        due(2 + 32, w.ofMeeting(0, 7));
        w.put(0, 0, 1);
        dueMeeting(w, 0, 1, 2, -1, 1, 1439, 2, 59, 0);
        w.answer(0, 5, 0);
        due(0, w.ofMeeting(0, 7));
        w.answer(0, 5, 1);
        due(32, w.ofMeeting(0, 7));
        w.answer(0, 0, 1);
        due(1 + 32, w.ofMeeting(0, 7));
        // Who handed it on is none of them, and CANCELLED it is all told still.
        w.answer(0, 3, 1);
        due(1 + 8 + 32, w.ofMeeting(0, 7));
        Daywall v = made(EdgeMeetingsTest::seen);
        v.answer(0, 1, 1);
        v.answer(0, 2, 1);
        v.hand(0, 1, 3);
        due(4, v.ofMeeting(0, 7));
        v.cancel(0);
        dueMeeting(v, 0, 0, 0, 1, NOON, 60, 1, 12, 4);
    }

    @Says(at = "Promise 40", value = "Throws IndexOutOfBoundsException if there is no such MEETING")
    static void refusesMeetingOfOfMeeting() {
        for (int what = 0; what <= 7; what++) {
            int k = what;
            meetingNumbers((w, x) -> w.ofMeeting(x, k));
        }
    }

    @Says(at = "Promise 40", value = "Throws IllegalArgumentException if what is not 0 to 7")
    static void refusesWhatOfOfMeeting() {
        bounds(ARGUMENT, EdgeMeetingsTest::seen, 0, 7, (w, x) -> w.ofMeeting(0, x));
        bounds(ARGUMENT, EdgeMeetingsTest::cancelled, 0, 7, (w, x) -> w.ofMeeting(0, x));
    }

    @Says(at = "Promise 41", value = {"what: 0 SEEN, 1 ANSWER, 2 the TIME that he ASKS FOR, 3 1 if he has not SEEN its VERSION, otherwise 0",
        "Returns that."})
    static void whatOfGuest() {
        Daywall w = made(EdgeMeetingsTest::one);
        dueGuest(w, 0, 1, 0, 0, -1, 1);
        w.answer(0, 1, 0);
        dueGuest(w, 0, 1, 1, 0, -1, 0);
        w.ask(0, 1, 0, 0);
        dueGuest(w, 0, 1, 1, 3, 0, 0);
        w.ask(0, 1, LAST, 1380);
        dueGuest(w, 0, 1, 1, 3, time(LAST, 1380), 0);
        w.put(0, 4, 720);
        dueGuest(w, 0, 1, 1, 3, -1, 1);
        w.answer(0, 1, 2);
        w.cancel(0);
        dueGuest(w, 0, 1, 2, 2, -1, 0);
        dueGuest(w, 0, 2, 0, 0, -1, 1);
    }

    @Says(at = "Promise 41", value = "Throws IndexOutOfBoundsException if there is no such MEETING or person")
    static void refusesMeetingAndPersonOfOfGuest() {
        for (int what = 0; what <= 3; what++) {
            int k = what;
            meetingNumbers((w, x) -> w.ofGuest(x, 1, k));
            for (int person : NO_PERSONS) {
                refused(INDEX, EdgeMeetingsTest::seen, w -> w.ofGuest(0, person, k));
            }
        }
    }

    @Says(at = "Promise 41", value = "Throws IllegalArgumentException if what is not 0 to 3")
    static void refusesWhatOfOfGuest() {
        bounds(ARGUMENT, EdgeMeetingsTest::seen, 0, 3, (w, x) -> w.ofGuest(0, 1, x));
    }

    @Says(at = "Promise 41", value = "Throws IllegalStateException if person is no GUEST of it")
    static void refusesNoGuests() {
        for (int what = 0; what <= 3; what++) {
            int k = what;
            for (int person : new int[] {0, 3, 4, 5}) {
                refused(STATE, EdgeMeetingsTest::seen, w -> w.ofGuest(0, person, k));
            }
            refused(STATE, w -> {
                seen(w);
                w.hand(0, 1, 3);
            }, w -> w.ofGuest(0, 1, k));
            let(EdgeMeetingsTest::cancelled, w -> w.ofGuest(0, 1, k));
        }
    }

    public static void main(String[] args) {
        run(EdgeMeetingsTest.class);
    }
}
