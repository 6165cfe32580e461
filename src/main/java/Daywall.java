import java.util.ArrayList;
import java.util.Arrays;

/** A wall calendar that several share. README.md tells how to use it. */
public final class Daywall {
    private static final int NONE = -1;
    private static final int NO_SUCH_DATE = -9;
    private static final int LAST_DAY = 36524;
    private static final int DAY_COUNT = 36525;
    private static final int FIRST_YEAR = 2000;
    private static final int YEAR_COUNT = 100;
    private static final int MONTH_COUNT = 1200;
    private static final int DAY_MINUTES = 1440;
    private static final int PERSON_COUNT = 6;
    private static final int ALL_PEOPLE = 63;
    private static final int HIGHEST_EVERY = 60;
    private static final int MOST_HOLIDAYS = 6;
    private static final int MOST_SERIES = 10;
    private static final int MOST_EXCEPTIONS = 12;
    private static final int MOST_MEETINGS = 24;
    private static final int MOST_TASKS = 8;
    private static final int NOTE_NUMBERS = 10;
    private static final int HIGHEST_K = 400;
    private static final int NO = 2;
    private static final int PERHAPS = 3;

    private final ArrayList<Series> allSeries;
    private final ArrayList<Meeting> allMeetings;
    /** The days of all years are kept, so that asking for one is a look at one bit. */
    private final DaySet holidays;
    private int holidayCount;
    private int hoursFrom;
    private int hoursTo;
    private int travelMinutes;
    /** For each minute of the day painted last, the set of those who are busy in it. */
    private final int[] busyRow;
    private final Clock clock;
    private final Zone[] zones;
    private final Tasks tasks;
    private final Notes copies;
    private int refused;
    private final StringBuilder line;
    private final Reader reader;
    private final Order order;

    public Daywall() {
        allSeries = new ArrayList<Series>();
        allMeetings = new ArrayList<Meeting>();
        holidays = new DaySet();
        hoursFrom = 540;
        hoursTo = 1020;
        busyRow = new int[DAY_MINUTES];
        clock = new Clock();
        zones = new Zone[PERSON_COUNT];
        for (int person = 0; person < PERSON_COUNT; person++) {
            zones[person] = new Zone();
        }
        tasks = new Tasks();
        copies = new Notes();
        line = new StringBuilder();
        reader = new Reader();
        order = new Order();
    }

    // ---- days

    public int day(int year, int month, int day) throws IllegalArgumentException {
        requireYear(year);
        if (month < 1 || month > 12) {
            return NO_SUCH_DATE;
        }
        int wallMonth = 12 * (year - FIRST_YEAR) + month - 1;
        if (day < 1 || day > Days.lengthOf(wallMonth)) {
            return NO_SUCH_DATE;
        }
        return Days.firstOf(wallMonth) + day - 1;
    }

    public int ofDay(int day, int what) throws IndexOutOfBoundsException, IllegalArgumentException {
        requireDay(day);
        int month = Days.monthOf(day);
        int years = Days.yearsTo(day);
        switch (what) {
            case 0:
                return FIRST_YEAR + years;
            case 1:
                return month % 12 + 1;
            case 2:
                return day - Days.firstOf(month) + 1;
            case 3:
                return Days.weekdayOf(day);
            case 4:
                return day - Days.firstOf(12 * years) + 1;
            case 5:
                return Days.lengthOf(month);
            case 6:
                return Days.isLeap(years) ? 1 : 0;
            case 7:
                return holidays.has(day) ? 1 : 0;
            default:
                throw new IllegalArgumentException("what is not 0 to 7");
        }
    }

    public String dayText(int day) throws IndexOutOfBoundsException {
        requireDay(day);
        int month = Days.monthOf(day);
        line.setLength(0);
        line.append(FIRST_YEAR + Days.yearsTo(day)).append('-');
        appendTwoDigits(month % 12 + 1);
        line.append('-');
        appendTwoDigits(day - Days.firstOf(month) + 1);
        return line.toString();
    }

    public int months(int day, int by) throws IndexOutOfBoundsException, IllegalArgumentException {
        requireDay(day);
        if (by < -MONTH_COUNT || by > MONTH_COUNT) {
            throw new IllegalArgumentException("by is not -1200 to 1200");
        }
        return Days.onBy(day, by);
    }

    public int between(int from, int to, int what) throws IndexOutOfBoundsException, IllegalArgumentException {
        requireDay(from);
        requireDay(to);
        if (to < from) {
            throw new IllegalArgumentException("to is before from");
        }
        int fromMonth = Days.monthOf(from);
        int toMonth = Days.monthOf(to);
        boolean isEarlierInMonth = to - Days.firstOf(toMonth) < from - Days.firstOf(fromMonth);
        int whole = toMonth - fromMonth - (isEarlierInMonth ? 1 : 0);
        switch (what) {
            case 0:
                return Math.floorDiv(whole, 12);
            case 1:
                return Math.floorMod(whole, 12);
            case 2:
                return to - Days.onBy(from, whole);
            default:
                throw new IllegalArgumentException("what is not 0 to 2");
        }
    }

    public int easter(int year) throws IllegalArgumentException {
        requireYear(year);
        return Days.easterOf(year - FIRST_YEAR);
    }

    public int holiday(int form, int a, int b) throws IllegalArgumentException, IllegalStateException {
        if (form != Rule.YEAR && form != Rule.EASTER || !Rule.isA(form, a) || !Rule.isB(form, b)) {
            throw new IllegalArgumentException("form, a or b is not in its bounds");
        }
        if (holidayCount >= MOST_HOLIDAYS) {
            throw new IllegalStateException("there are 6 holidays");
        }
        Rule rule = new Rule(form, 1, a, b, 0);
        for (int years = 0; years < YEAR_COUNT; years++) {
            int day = rule.fitIn(years, 0, LAST_DAY, false);
            if (day != NONE) {
                holidays.include(day);
            }
        }
        holidayCount++;
        return holidayCount - 1;
    }

    // ---- series

    public int series(int form, int every, int a, int b, int start)
            throws IllegalArgumentException, IllegalStateException {
        if (!Rule.isForm(form) || every < 1 || every > HIGHEST_EVERY) {
            throw new IllegalArgumentException("form or every is not in its bounds");
        }
        if (!Rule.isA(form, a) || !Rule.isB(form, b) || !isOnWall(start)) {
            throw new IllegalArgumentException("a, b or start is not in its bounds");
        }
        requireRoomForSeries();
        allSeries.add(new Series(new Rule(form, every, a, b, start), LAST_DAY));
        return allSeries.size() - 1;
    }

    public int time(int series, int minute, int length)
            throws IndexOutOfBoundsException, IllegalArgumentException, IllegalStateException {
        Series s = seriesAt(series);
        requireSpan(minute, length);
        if (s.wouldOutlastDay(length)) {
            throw new IllegalStateException("a moved one would last beyond its day");
        }
        s.minute = minute;
        s.length = length;
        return minute + length;
    }

    public int people(int series, int set) throws IndexOutOfBoundsException, IllegalArgumentException {
        Series s = seriesAt(series);
        requireSomePeople(set);
        int before = s.people;
        s.people = set;
        return before;
    }

    public int until(int series, int day) throws IndexOutOfBoundsException, IllegalArgumentException {
        Series s = seriesAt(series);
        if (day < s.rule.start || day > LAST_DAY) {
            throw new IllegalArgumentException("day is not START to 36524");
        }
        return s.endAt(day);
    }

    public int often(int series, int k)
            throws IndexOutOfBoundsException, IllegalArgumentException, IllegalStateException {
        Series s = seriesAt(series);
        if (k < 1 || k > HIGHEST_K) {
            throw new IllegalArgumentException("k is not 1 to 400");
        }
        int day = s.rule.dayAfter(k - 1);
        if (day == NONE) {
            throw new IllegalStateException("the wall has fewer days of the rule");
        }
        s.endAt(day);
        return day;
    }

    public boolean skips(int series, boolean isSkipping) throws IndexOutOfBoundsException {
        Series s = seriesAt(series);
        boolean before = s.isSkipping;
        s.isSkipping = isSkipping;
        return before;
    }

    public int strike(int series, int day) throws IndexOutOfBoundsException, IllegalStateException {
        Series s = seriesAt(series);
        requireRoomForException(s, day);
        s.addException(day, Series.STRUCK);
        return s.exceptionCount;
    }

    public int move(int series, int day, int toDay, int toMinute)
            throws IndexOutOfBoundsException, IllegalArgumentException, IllegalStateException {
        Series s = seriesAt(series);
        if (!isOnWall(toDay)) {
            throw new IllegalArgumentException("the wall has no day toDay");
        }
        requireMinuteFor(s.length, toMinute);
        requireRoomForException(s, day);
        s.addException(day, toDay * DAY_MINUTES + toMinute);
        return s.exceptionCount;
    }

    public int mend(int series, int day) throws IndexOutOfBoundsException, IllegalStateException {
        Series s = seriesAt(series);
        int place = s.exceptionAt(day);
        if (place == NONE) {
            throw new IllegalStateException("there is no exception at that day");
        }
        s.removeException(place);
        return s.exceptionCount;
    }

    public int cut(int series, int day) throws IndexOutOfBoundsException, IllegalStateException {
        Series s = seriesAt(series);
        requireRoomForSeries();
        // Days off the wall are sorted out first: day - 1 could wrap around.
        if (day <= s.rule.start || day > LAST_DAY) {
            throw new IllegalStateException("it has no rule day before day, or none from day on");
        }
        int last = s.latestTill(day - 1);
        int start = s.earliestFrom(day);
        if (last == NONE || start == NONE) {
            throw new IllegalStateException("it has no rule day before day, or none from day on");
        }
        Series later = new Series(s.rule.startingAt(start), s.last);
        later.takeSettings(s);
        later.takeFrom(s, day);
        s.last = last;
        allSeries.add(later);
        return allSeries.size() - 1;
    }

    public int join(int a, int b) throws IndexOutOfBoundsException, IllegalStateException {
        Series first = seriesAt(a);
        Series second = seriesAt(b);
        if (!first.rule.isLike(second.rule) || !first.hasSettingsOf(second)) {
            throw new IllegalStateException("the two series are unlike");
        }
        if (first.rule.earliestFrom(first.last + 1) != second.rule.start) {
            throw new IllegalStateException("the second one does not go on where the first one ends");
        }
        if (first.exceptionCount + second.exceptionCount > MOST_EXCEPTIONS) {
            throw new IllegalStateException("both have more than 12 exceptions together");
        }
        first.takeFrom(second, 0);
        first.last = second.last;
        allSeries.remove(b);
        return b < a ? a - 1 : a;
    }

    public int drop(int series) throws IndexOutOfBoundsException {
        requireSeries(series);
        allSeries.remove(series);
        return allSeries.size();
    }

    public int copy(int series) throws IndexOutOfBoundsException, IllegalStateException {
        Series s = seriesAt(series);
        requireRoomForSeries();
        writeSeries(s);
        reader.faultOf(line);
        allSeries.add(reader.seriesRead());
        return allSeries.size() - 1;
    }

    public int remind(int series, int before) throws IndexOutOfBoundsException, IllegalArgumentException {
        Series s = seriesAt(series);
        if (before < NONE || before > DAY_MINUTES) {
            throw new IllegalArgumentException("before is not 0 to 1440, or NONE");
        }
        int old = s.remind;
        s.remind = before;
        return old;
    }

    // ---- what a series is asked

    public int on(int series, int day) throws IndexOutOfBoundsException {
        Series s = seriesAt(series);
        requireDay(day);
        return s.kindOf(day, holidays) + 8 * s.movedTo(day);
    }

    public int kth(int series, int k) throws IndexOutOfBoundsException, IllegalArgumentException {
        Series s = seriesAt(series);
        if (k < 0 || k > HIGHEST_K) {
            throw new IllegalArgumentException("k is not 0 to 400");
        }
        int day = s.rule.dayAfter(k);
        return day <= s.last ? day : NONE;
    }

    public int next(int series, int day, boolean isBack) throws IndexOutOfBoundsException {
        Series s = seriesAt(series);
        requireDay(day);
        return isBack ? s.latestTill(day) : s.earliestFrom(day);
    }

    public int many(int series, int from, int to) throws IndexOutOfBoundsException, IllegalArgumentException {
        Series s = seriesAt(series);
        requireSpanOfDays(from, to, 4000);
        return s.dayCount(from, to);
    }

    public String text(int series) throws IndexOutOfBoundsException {
        writeSeries(seriesAt(series));
        return line.toString();
    }

    public int spoiled(int series, int at, int sign) throws IndexOutOfBoundsException, IllegalArgumentException {
        writeSeries(seriesAt(series));
        if (at < 0 || at >= line.length()) {
            throw new IndexOutOfBoundsException("there is no such place");
        }
        if (sign < 0 || sign > 11) {
            throw new IllegalArgumentException("sign is not 0 to 11");
        }
        line.setCharAt(at, sign == 11 ? ' ' : sign == 10 ? '-' : (char) ('0' + sign));
        return reader.faultOf(line);
    }

    public int same(int a, int b) throws IndexOutOfBoundsException {
        Rule one = seriesAt(a).rule;
        Rule other = seriesAt(b).rule;
        int low = Math.max(one.start, other.start);
        // What has not differed for a whole period of both never does.
        int high = Math.min(LAST_DAY, low + Rule.periodOfBoth(one, other) - 1);
        int at = low;
        for (int n = low; n <= high && at <= high; n++) {
            int day = one.earliestFrom(at);
            int otherDay = other.earliestFrom(at);
            if (day != otherDay) {
                return day == NONE || otherDay != NONE && otherDay < day ? otherDay : day;
            }
            if (day == NONE) {
                return NONE;
            }
            at = day + 1;
        }
        return NONE;
    }

    public int period(int a, int b) throws IndexOutOfBoundsException {
        Series first = seriesAt(a);
        Series second = seriesAt(b);
        return Rule.periodOfBoth(first.rule, second.rule);
    }

    public int differs(int a, int b, int from, int to) throws IndexOutOfBoundsException, IllegalArgumentException {
        Series first = seriesAt(a);
        Series second = seriesAt(b);
        requireSpanOfDays(from, to, 400);
        int found = 0;
        for (int day = from; day <= to; day++) {
            if (first.isRuleDay(day) != second.isRuleDay(day)) {
                found++;
            }
        }
        return found;
    }

    public String agenda(int from, int to) throws IndexOutOfBoundsException, IllegalArgumentException {
        requireSpanOfDays(from, to, 13);
        order.empty();
        for (int k = 0; k < allSeries.size(); k++) {
            gatherOccurrences(k, allSeries.get(k), from, to);
        }
        int after = (to + 1) * DAY_MINUTES;
        for (int k = 0; k < allMeetings.size(); k++) {
            Meeting m = allMeetings.get(k);
            if (m.isStanding && m.time >= from * DAY_MINUTES && m.time < after) {
                order.enter(m.time, MOST_SERIES + k, 0);
            }
        }
        writeOrder();
        return line.toString();
    }

    // ---- meetings

    public int meet(int owner, int room, int day, int minute, int length, int guests)
            throws IndexOutOfBoundsException, IllegalArgumentException, IllegalStateException {
        requirePerson(owner);
        if (room < NONE || room > 2) {
            throw new IndexOutOfBoundsException("there is no such room");
        }
        requireDay(day);
        requireSpan(minute, length);
        if (guests < 0 || guests > ALL_PEOPLE || (guests >> owner & 1) != 0) {
            throw new IllegalArgumentException("guests is not 0 to 63, or with the owner");
        }
        if (allMeetings.size() >= MOST_MEETINGS) {
            throw new IllegalStateException("there are 24 meetings");
        }
        Meeting made = new Meeting(owner, room, day * DAY_MINUTES + minute, length, guests);
        int inWay = inTheWay(made, made.time);
        if (inWay != NONE) {
            return -2 - inWay;
        }
        allMeetings.add(made);
        return allMeetings.size() - 1;
    }

    public int put(int meeting, int day, int minute)
            throws IndexOutOfBoundsException, IllegalArgumentException, IllegalStateException {
        Meeting m = meetingAt(meeting);
        requireDay(day);
        requireMinuteFor(m.length, minute);
        requireStanding(m);
        return putTo(m, day * DAY_MINUTES + minute);
    }

    public int cancel(int meeting) throws IndexOutOfBoundsException, IllegalStateException {
        Meeting m = meetingAt(meeting);
        requireStanding(m);
        m.isStanding = false;
        return standingCount();
    }

    public int answer(int meeting, int person, int what)
            throws IndexOutOfBoundsException, IllegalArgumentException, IllegalStateException {
        Meeting m = meetingAt(meeting);
        requirePerson(person);
        if (what < 0 || what > PERHAPS) {
            throw new IllegalArgumentException("what is not 0 to 3");
        }
        requireStanding(m);
        requireGuest(m, person);
        m.look(person);
        if (what != 0) {
            m.answers[person] = what;
        }
        return m.version;
    }

    public int ask(int meeting, int person, int day, int minute)
            throws IndexOutOfBoundsException, IllegalArgumentException, IllegalStateException {
        Meeting m = meetingAt(meeting);
        requirePerson(person);
        requireDay(day);
        requireMinuteFor(m.length, minute);
        requireStanding(m);
        requireGuest(m, person);
        if (m.seen[person] != m.version) {
            throw new IllegalStateException("he has not seen its version");
        }
        m.askedTimes[person] = day * DAY_MINUTES + minute;
        m.answers[person] = PERHAPS;
        return m.askedTimes[person];
    }

    public int agree(int meeting, int person) throws IndexOutOfBoundsException, IllegalStateException {
        Meeting m = meetingAt(meeting);
        requirePerson(person);
        requireStanding(m);
        requireGuest(m, person);
        if (m.askedTimes[person] == NONE) {
            throw new IllegalStateException("he asks for nothing");
        }
        int result = putTo(m, m.askedTimes[person]);
        if (result > 0) {
            m.seen[person] = m.version;
            m.answers[person] = 1;
        }
        return result;
    }

    public int hand(int meeting, int person, int other) throws IndexOutOfBoundsException, IllegalStateException {
        Meeting m = meetingAt(meeting);
        requirePerson(person);
        requirePerson(other);
        requireStanding(m);
        requireGuest(m, person);
        if (m.isGuest(other) || other == m.owner || (m.handedOn >> other & 1) != 0) {
            throw new IllegalStateException("the other one is a guest, or the owner, or has handed it on");
        }
        m.handOn(person, other);
        return m.guests;
    }

    public int ofMeeting(int meeting, int what) throws IndexOutOfBoundsException, IllegalArgumentException {
        Meeting m = meetingAt(meeting);
        switch (what) {
            case 0:
                return m.isStanding ? 1 : 0;
            case 1:
                return m.owner;
            case 2:
                return m.room;
            case 3:
                return m.time;
            case 4:
                return m.length;
            case 5:
                return m.version;
            case 6:
                return m.guests;
            case 7:
                return m.sureGuests();
            default:
                throw new IllegalArgumentException("what is not 0 to 7");
        }
    }

    public int ofGuest(int meeting, int person, int what)
            throws IndexOutOfBoundsException, IllegalArgumentException, IllegalStateException {
        Meeting m = meetingAt(meeting);
        requirePerson(person);
        if (what < 0 || what > 3) {
            throw new IllegalArgumentException("what is not 0 to 3");
        }
        requireGuest(m, person);
        switch (what) {
            case 0:
                return m.seen[person];
            case 1:
                return m.answers[person];
            case 2:
                return m.askedTimes[person];
            default:
                return m.seen[person] != m.version ? 1 : 0;
        }
    }

    // ---- busy and free

    public int hours(int from, int to) throws IllegalArgumentException {
        if (from < 0 || from >= DAY_MINUTES || to <= from || to > DAY_MINUTES) {
            throw new IllegalArgumentException("from is not 0 to 1439, or to not from + 1 to 1440");
        }
        hoursFrom = from;
        hoursTo = to;
        return to - from;
    }

    public int travel(int minutes) throws IllegalArgumentException {
        if (minutes < 0 || minutes > 60) {
            throw new IllegalArgumentException("minutes is not 0 to 60");
        }
        int before = travelMinutes;
        travelMinutes = minutes;
        return before;
    }

    public int busy(int person, int day) throws IndexOutOfBoundsException {
        requirePerson(person);
        requireDay(day);
        paintDay(day);
        return busyMinutes(person, 0, DAY_MINUTES);
    }

    public String free(int people, int day) throws IndexOutOfBoundsException, IllegalArgumentException {
        requireDay(day);
        requireSomePeople(people);
        writeFree(people, day);
        return line.toString();
    }

    public int propose(int must, int may, int day, int length)
            throws IndexOutOfBoundsException, IllegalArgumentException {
        requireDay(day);
        requireSomePeople(must);
        if (may < 0 || may > ALL_PEOPLE || length < 1 || length > DAY_MINUTES) {
            throw new IllegalArgumentException("may is not 0 to 63, or length not 1 to 1440");
        }
        int best = NONE;
        int fewest = PERSON_COUNT + 1;
        for (int at = day; at <= day + 4 && at <= LAST_DAY; at++) {
            if (!isWorkday(at)) {
                continue;
            }
            paintDay(at);
            int first = (hoursFrom + 14) / 15 * 15;
            for (int minute = first; minute + length <= hoursTo; minute += 15) {
                int inIt = busyIn(minute, minute + length);
                int trouble = Integer.bitCount(inIt & may & ~must);
                if ((inIt & must) == 0 && trouble < fewest) {
                    fewest = trouble;
                    best = at * DAY_MINUTES + minute;
                }
            }
        }
        return best;
    }

    // ---- clock and zones

    public int tick(int minutes) throws IllegalArgumentException, IllegalStateException {
        if (minutes < 1 || minutes > 20160) {
            throw new IllegalArgumentException("minutes is not 1 to 20160");
        }
        int then = clock.now + minutes;
        if (then >= DAY_COUNT * DAY_MINUTES) {
            throw new IllegalStateException("the clock would be beyond the last day");
        }
        order.empty();
        for (int k = 0; k < allSeries.size(); k++) {
            if (allSeries.get(k).remind != NONE) {
                gatherRings(k, allSeries.get(k), then);
            }
        }
        for (int k = 0; k < order.size; k++) {
            int number = order.sourceAt(k);
            seriesAt(number).rungDays.include(order.dayAt(k));
            clock.ring(order.timeAt(k), number);
        }
        clock.now = then;
        return order.size;
    }

    public String rung() {
        clock.writeRings(line);
        return line.toString();
    }

    public int zone(int person, int day, int shift)
            throws IndexOutOfBoundsException, IllegalArgumentException, IllegalStateException {
        requirePerson(person);
        requireDay(day);
        if (shift < -720 || shift > 840) {
            throw new IllegalArgumentException("shift is not -720 to 840");
        }
        if (!zones[person].hasRoomFor(day)) {
            throw new IllegalStateException("there would be more than 8 days with a change");
        }
        zones[person].change(day, shift);
        return zones[person].size;
    }

    public int local(int person, int day, int minute) throws IndexOutOfBoundsException, IllegalArgumentException {
        requirePerson(person);
        requireDay(day);
        requireMinuteFor(1, minute);
        return day * DAY_MINUTES + minute + zones[person].shiftOn(day);
    }

    // ---- tasks and notes

    public int task(int length) throws IllegalArgumentException, IllegalStateException {
        if (length < 1 || length > 20) {
            throw new IllegalArgumentException("length is not 1 to 20");
        }
        if (tasks.size >= MOST_TASKS) {
            throw new IllegalStateException("there are 8 tasks");
        }
        tasks.lengths[tasks.size] = length;
        tasks.size++;
        return tasks.size - 1;
    }

    public int need(int task, int other) throws IndexOutOfBoundsException, IllegalStateException {
        requireTask(task);
        requireTask(other);
        boolean isNeeded = (tasks.needs[task] >> other & 1) != 0;
        if (isNeeded || task == other || (tasks.allNeedsOf(other) >> task & 1) != 0) {
            throw new IllegalStateException("it needs that one, or is it, or that one needs it");
        }
        tasks.needs[task] |= 1 << other;
        return Integer.bitCount(tasks.needs[task]);
    }

    public int done(int task, int day) throws IndexOutOfBoundsException {
        requireTask(task);
        requireDay(day);
        tasks.forgetDone();
        // No task needs itself, so each round settles one more at least.
        for (int round = 0; round < tasks.size; round++) {
            for (int k = 0; k < tasks.size; k++) {
                if (tasks.isReady(k)) {
                    tasks.doneDays[k] = lastWorkday(tasks.beginOf(k, day), tasks.lengths[k]);
                }
            }
        }
        return tasks.doneDays[task];
    }

    public int note(int copy, int number, int value) throws IndexOutOfBoundsException, IllegalArgumentException {
        requireNote(copy, number);
        if (value < 0 || value > 99) {
            throw new IllegalArgumentException("value is not 0 to 99");
        }
        copies.rowOf(copy)[number] = value;
        return copies.sizeOf(copy);
    }

    public int erase(int copy, int number) throws IndexOutOfBoundsException, IllegalStateException {
        requireNote(copy, number);
        if (copies.rowOf(copy)[number] == NONE) {
            throw new IllegalStateException("that copy has it not");
        }
        copies.rowOf(copy)[number] = NONE;
        return copies.sizeOf(copy);
    }

    public int merge(boolean isSecondFirst) {
        copies.bringTogether(isSecondFirst);
        return copies.sizeOf(0);
    }

    public String notes(int copy) throws IndexOutOfBoundsException {
        requireNote(copy, 0);
        copies.writeCopy(copy, line);
        return line.toString();
    }

    // ---- the whole

    public int knock() {
        refused++;
        return refused;
    }

    public int count(int what) throws IllegalArgumentException {
        switch (what) {
            case 0:
                return allSeries.size();
            case 1:
                return holidayCount;
            case 2:
                return allMeetings.size();
            case 3:
                return standingCount();
            case 4:
                return tasks.size;
            case 5:
                return exceptionCount();
            case 6:
                return clock.now;
            case 7:
                return clock.ringCount;
            case 8:
                return copies.sizeOf(0) + copies.sizeOf(1);
            case 9:
                return refused;
            default:
                throw new IllegalArgumentException("what is not 0 to 9");
        }
    }

    public boolean isSound() {
        for (int k = 0; k < allSeries.size(); k++) {
            if (!allSeries.get(k).isRuleSound()) {
                return false;
            }
            writeSeries(allSeries.get(k));
            if (reader.faultOf(line) != NONE) {
                return false;
            }
        }
        paintDay(clock.today());
        return areRoomsSound() && arePeopleSound() && copies.isSameBothWays();
    }

    public long digest() {
        int today = clock.today();
        long d = 5811;
        for (int what = 0; what <= 9; what++) {
            d = d * 31 + count(what);
        }
        for (int k = 0; k < allSeries.size(); k++) {
            d = digestSeries(d, k, today);
        }
        for (int k = 0; k < allMeetings.size(); k++) {
            d = digestMeeting(d, k);
        }
        for (int person = 0; person < PERSON_COUNT; person++) {
            d = d * 31 + busy(person, today);
            d = d * 31 + local(person, today, 0);
        }
        for (int k = 0; k < tasks.size; k++) {
            d = d * 31 + done(k, today);
        }
        d = d * 31 + ofDay(today, 7);
        copies.writeCopy(0, line);
        d = d * 31 + line.length();
        copies.writeCopy(1, line);
        d = d * 31 + line.length();
        clock.writeRings(line);
        d = d * 31 + line.length();
        writeFree(ALL_PEOPLE, today);
        d = d * 31 + line.length();
        return d * 31 + (isSound() ? 1 : 0);
    }

    // ---- what the calls refuse

    private static boolean isOnWall(int day) {
        return day >= 0 && day <= LAST_DAY;
    }

    private static void requireYear(int year) {
        if (year < FIRST_YEAR || year >= FIRST_YEAR + YEAR_COUNT) {
            throw new IllegalArgumentException("year is not 2000 to 2099");
        }
    }

    private static void requireDay(int day) {
        if (!isOnWall(day)) {
            throw new IndexOutOfBoundsException("the wall has no such day");
        }
    }

    private static void requireSpanOfDays(int from, int to, int longest) {
        requireDay(from);
        requireDay(to);
        if (to < from || to > from + longest) {
            throw new IllegalArgumentException("to is before from, or too far after it");
        }
    }

    private static void requirePerson(int person) {
        if (person < 0 || person >= PERSON_COUNT) {
            throw new IndexOutOfBoundsException("there is no such person");
        }
    }

    private static void requireSomePeople(int set) {
        if (set < 1 || set > ALL_PEOPLE) {
            throw new IllegalArgumentException("the set is not 1 to 63");
        }
    }

    private static void requireSpan(int minute, int length) {
        if (minute < 0 || minute >= DAY_MINUTES || length < 1 || length > DAY_MINUTES - minute) {
            throw new IllegalArgumentException("minute is not 0 to 1439, or length not 1 to 1440 - minute");
        }
    }

    private static void requireMinuteFor(int length, int minute) {
        if (minute < 0 || minute > DAY_MINUTES - length) {
            throw new IllegalArgumentException("minute is not 0 to 1440 - length");
        }
    }

    private void requireSeries(int number) {
        if (number < 0 || number >= allSeries.size()) {
            throw new IndexOutOfBoundsException("there is no such series");
        }
    }

    private Series seriesAt(int number) {
        requireSeries(number);
        return allSeries.get(number);
    }

    private void requireRoomForSeries() {
        if (allSeries.size() >= MOST_SERIES) {
            throw new IllegalStateException("there are 10 series");
        }
    }

    private static void requireRoomForException(Series s, int day) {
        if (!s.isRuleDay(day) || s.exceptionAt(day) != NONE || s.exceptionCount >= MOST_EXCEPTIONS) {
            throw new IllegalStateException("no rule day, or with an exception, or there are 12");
        }
    }

    private Meeting meetingAt(int number) {
        if (number < 0 || number >= allMeetings.size()) {
            throw new IndexOutOfBoundsException("there is no such meeting");
        }
        return allMeetings.get(number);
    }

    private static void requireStanding(Meeting m) {
        if (!m.isStanding) {
            throw new IllegalStateException("it is cancelled");
        }
    }

    private static void requireGuest(Meeting m, int person) {
        if (!m.isGuest(person)) {
            throw new IllegalStateException("that person is no guest of it");
        }
    }

    private void requireTask(int number) {
        if (number < 0 || number >= tasks.size) {
            throw new IndexOutOfBoundsException("there is no such task");
        }
    }

    private static void requireNote(int copy, int number) {
        if (copy < 0 || copy > 1 || number < 0 || number >= NOTE_NUMBERS) {
            throw new IndexOutOfBoundsException("there is no such copy or number");
        }
    }

    // ---- what the calls share

    private void appendTwoDigits(int number) {
        if (number < 10) {
            line.append('0');
        }
        line.append(number);
    }

    private void writeSeries(Series s) {
        line.setLength(0);
        line.append(Rule.nameOf(s.rule.form));
        line.append(' ').append(s.rule.every);
        line.append(' ').append(s.rule.a);
        line.append(' ').append(s.rule.b);
        line.append(' ').append(s.rule.start);
        line.append(' ').append(s.last);
        line.append(' ').append(s.minute);
        line.append(' ').append(s.length);
        line.append(' ').append(s.people);
        line.append(' ').append(s.isSkipping ? 1 : 0);
    }

    private void gatherOccurrences(int number, Series s, int from, int to) {
        for (int day = from; day <= to; day++) {
            if (s.occursOn(day, holidays)) {
                order.enter(day * DAY_MINUTES + s.minute, number, day);
            }
        }
        int after = (to + 1) * DAY_MINUTES;
        for (int k = 0; k < s.exceptionCount; k++) {
            int time = s.exceptionTimes[k];
            if (time != Series.STRUCK && time >= from * DAY_MINUTES && time < after) {
                order.enter(time, number, s.exceptionDays[k]);
            }
        }
    }

    private void gatherRings(int number, Series s, int then) {
        int after = clock.now + s.remind;
        int till = then + s.remind;
        int lastDay = Math.min(LAST_DAY, till / DAY_MINUTES);
        for (int day = after / DAY_MINUTES; day <= lastDay; day++) {
            int time = day * DAY_MINUTES + s.minute;
            if (time > after && time <= till && !s.rungDays.has(day) && s.occursOn(day, holidays)) {
                order.enter(time - s.remind, number, day);
            }
        }
        for (int k = 0; k < s.exceptionCount; k++) {
            int time = s.exceptionTimes[k];
            if (time != Series.STRUCK && time > after && time <= till && !s.rungDays.has(s.exceptionDays[k])) {
                order.enter(time - s.remind, number, s.exceptionDays[k]);
            }
        }
    }

    private void writeOrder() {
        line.setLength(0);
        for (int k = 0; k < order.size; k++) {
            if (k > 0) {
                line.append(' ');
            }
            int source = order.sourceAt(k);
            line.append(order.timeAt(k));
            if (source < MOST_SERIES) {
                line.append('s').append(source);
            } else {
                line.append('m').append(source - MOST_SERIES);
            }
        }
    }

    private int inTheWay(Meeting moved, int time) {
        int found = NONE;
        int foundTime = DAY_COUNT * DAY_MINUTES;
        for (int k = 0; k < allMeetings.size(); k++) {
            Meeting m = allMeetings.get(k);
            if (m != moved && moved.wouldMeet(m, time) && m.time < foundTime) {
                found = k;
                foundTime = m.time;
            }
        }
        return found;
    }

    private int putTo(Meeting m, int time) {
        int inWay = inTheWay(m, time);
        if (inWay != NONE) {
            return -2 - inWay;
        }
        m.putTo(time);
        return m.version;
    }

    private int standingCount() {
        int standing = 0;
        for (int k = 0; k < allMeetings.size(); k++) {
            if (allMeetings.get(k).isStanding) {
                standing++;
            }
        }
        return standing;
    }

    private int exceptionCount() {
        int all = 0;
        for (int k = 0; k < allSeries.size(); k++) {
            all += allSeries.get(k).exceptionCount;
        }
        return all;
    }

    private boolean isWorkday(int day) {
        return Days.weekdayOf(day) < 5 && !holidays.has(day);
    }

    /** The last one of so many WORKDAYS from that DAY on. */
    private int lastWorkday(int from, int length) {
        int left = length;
        for (int day = from; day <= LAST_DAY; day++) {
            if (isWorkday(day)) {
                left--;
            }
            if (left == 0) {
                return day;
            }
        }
        return NONE;
    }

    private void paintDay(int day) {
        Arrays.fill(busyRow, 0);
        int midnight = day * DAY_MINUTES;
        for (int k = 0; k < allSeries.size(); k++) {
            Series s = allSeries.get(k);
            if (s.occursOn(day, holidays)) {
                paint(s.people, s.minute, s.minute + s.length);
            }
            for (int e = 0; e < s.exceptionCount; e++) {
                if (s.isMovedTo(e, day)) {
                    int minute = s.exceptionTimes[e] - midnight;
                    paint(s.people, minute, minute + s.length);
                }
            }
        }
        for (int k = 0; k < allMeetings.size(); k++) {
            Meeting m = allMeetings.get(k);
            if (m.isStanding && m.time / DAY_MINUTES == day) {
                int more = m.room == NONE ? 0 : travelMinutes;
                int minute = m.time - midnight;
                paint(m.busyPeople(), minute - more, minute + m.length + more);
            }
        }
    }

    private void paint(int people, int from, int to) {
        for (int minute = Math.max(from, 0); minute < to && minute < DAY_MINUTES; minute++) {
            busyRow[minute] |= people;
        }
    }

    private int busyMinutes(int person, int from, int to) {
        int found = 0;
        for (int minute = Math.max(from, 0); minute < to && minute < DAY_MINUTES; minute++) {
            found += busyRow[minute] >> person & 1;
        }
        return found;
    }

    private int busyIn(int from, int to) {
        int people = 0;
        for (int minute = Math.max(from, 0); minute < to && minute < DAY_MINUTES; minute++) {
            people |= busyRow[minute];
        }
        return people;
    }

    /** The first minute of HOURS from that one on in which they are FREE, or are not; without one, the end of HOURS. */
    private int firstMinute(int from, int people, boolean isFree) {
        for (int minute = from; minute >= 0 && minute < hoursTo && minute < DAY_MINUTES; minute++) {
            if ((busyRow[minute] & people) == 0 == isFree) {
                return minute;
            }
        }
        return hoursTo;
    }

    private void writeFree(int people, int day) {
        paintDay(day);
        line.setLength(0);
        int from = firstMinute(hoursFrom, people, true);
        for (int n = 0; n < DAY_MINUTES && from < hoursTo; n++) {
            int to = firstMinute(from, people, false);
            if (line.length() > 0) {
                line.append(' ');
            }
            line.append(from).append('-').append(to);
            from = firstMinute(to, people, true);
        }
    }

    private boolean areRoomsSound() {
        for (int k = 0; k < allMeetings.size(); k++) {
            Meeting m = allMeetings.get(k);
            if (m.isStanding && inTheWay(m, m.time) != NONE) {
                return false;
            }
        }
        return true;
    }

    private boolean arePeopleSound() {
        for (int person = 0; person < PERSON_COUNT; person++) {
            int minutes = busyMinutes(person, hoursFrom, hoursTo);
            int from = firstMinute(hoursFrom, 1 << person, true);
            for (int n = 0; n < DAY_MINUTES && from < hoursTo; n++) {
                int to = firstMinute(from, 1 << person, false);
                minutes += to - from;
                from = firstMinute(to, 1 << person, true);
            }
            if (minutes != hoursTo - hoursFrom) {
                return false;
            }
        }
        return true;
    }

    private long digestSeries(long before, int number, int today) {
        Series s = allSeries.get(number);
        long d = before;
        d = d * 31 + s.rule.start;
        d = d * 31 + s.last;
        d = d * 31 + s.remind;
        d = d * 31 + s.exceptionCount;
        d = d * 31 + on(number, today);
        d = d * 31 + next(number, today, false);
        d = d * 31 + kth(number, 1);
        writeSeries(s);
        return d * 31 + line.length();
    }

    private long digestMeeting(long before, int number) {
        long d = before;
        for (int what = 0; what <= 7; what++) {
            d = d * 31 + ofMeeting(number, what);
        }
        for (int person = 0; person < PERSON_COUNT; person++) {
            if (allMeetings.get(number).isGuest(person)) {
                for (int what = 0; what <= 3; what++) {
                    d = d * 31 + ofGuest(number, person, what);
                }
            }
        }
        return d;
    }

    /** The wall's days, months (0 is January 2000) and years (0 is 2000). */
    private static final class Days {
        /** The days before each month of four years, the LEAP one first: on the wall all four are alike. */
        private static final int[] BEFORE = {
            0, 31, 60, 91, 121, 152, 182, 213, 244, 274, 305, 335,
            366, 397, 425, 456, 486, 517, 547, 578, 609, 639, 670, 700,
            731, 762, 790, 821, 851, 882, 912, 943, 974, 1004, 1035, 1065,
            1096, 1127, 1155, 1186, 1216, 1247, 1277, 1308, 1339, 1369, 1400, 1430,
            1461};
        private static final int FOUR_YEARS = 1461;

        private Days() {
        }

        static int weekdayOf(int day) {
            return Math.floorMod(day + 5, 7);
        }

        static int weekOf(int day) {
            return Math.floorDiv(day + 5, 7);
        }

        static int firstOf(int month) {
            return Math.floorDiv(month, 48) * FOUR_YEARS + BEFORE[Math.floorMod(month, 48)];
        }

        static int lengthOf(int month) {
            int place = Math.floorMod(month, 48);
            return BEFORE[place + 1] - BEFORE[place];
        }

        static int monthOf(int day) {
            int rest = Math.floorMod(day, FOUR_YEARS);
            // No month is longer than 31 days, and 48 of them fall short of that by less than one month.
            int place = rest / 31;
            if (rest >= BEFORE[place + 1]) {
                place++;
            }
            return Math.floorDiv(day, FOUR_YEARS) * 48 + place;
        }

        static int yearsTo(int day) {
            int rest = Math.floorMod(day, FOUR_YEARS);
            return Math.floorDiv(day, FOUR_YEARS) * 4 + (rest < 366 ? 0 : (rest - 1) / 365);
        }

        static boolean isLeap(int years) {
            return Math.floorMod(years, 4) == 0;
        }

        /** That DAY on by so many months; NONE off the wall. */
        static int onBy(int day, int by) {
            int month = monthOf(day);
            int target = month + by;
            if (target < 0 || target >= MONTH_COUNT) {
                return NONE;
            }
            return firstOf(target) + Math.min(day - firstOf(month), lengthOf(target) - 1);
        }

        static int easterOf(int years) {
            int a = Math.floorMod(FIRST_YEAR + years, 19);
            int h = (19 * a + 24) % 30;
            int l = Math.floorMod(32 + 2 * Math.floorDiv(years, 4) - h - Math.floorMod(years, 4), 7);
            int m = (a + 11 * h + 22 * l) / 451;
            int s = h + l - 7 * m + 114;
            int month = 12 * years + s / 31 - 1;
            return Math.floorDiv(month, 48) * FOUR_YEARS + BEFORE[Math.floorMod(month, 48)] + s % 31;
        }
    }

    /** A set of DAYS of the wall. */
    private static final class DaySet {
        private final long[] words = new long[DAY_COUNT / 64 + 1];

        boolean has(int day) {
            return isOnWall(day) && (words[day / 64] >> day % 64 & 1) != 0;
        }

        void include(int day) {
            if (isOnWall(day)) {
                words[day / 64] |= 1L << day % 64;
            }
        }

        /** Takes the DAYS from that one on out of the other set. */
        void takeFrom(DaySet other, int day) {
            for (int k = 0; k < words.length; k++) {
                int first = k * 64;
                long taken = day <= first ? -1L : day > first + 63 ? 0 : -1L << day - first;
                words[k] |= other.words[k] & taken;
                other.words[k] &= ~taken;
            }
        }
    }

    /** On which DAYS something comes again: FORM, EVERY, A, B and START. */
    private static final class Rule {
        static final int DAYS = 0;
        static final int WEEKS = 1;
        static final int MONTH = 2;
        static final int PLACE = 3;
        static final int YEAR = 4;
        static final int EASTER = 5;
        private static final int LEAP_DATE = 229;
        private static final int DAYS_OF_28_YEARS = 10227;

        final int form;
        final int every;
        final int a;
        final int b;
        final int start;

        Rule(int form, int every, int a, int b, int start) {
            this.form = form;
            // It divides, so it is never 0.
            this.every = Math.max(every, 1);
            this.a = a;
            this.b = b;
            this.start = start;
        }

        static boolean isForm(int form) {
            return form >= DAYS && form <= EASTER;
        }

        static String nameOf(int form) {
            switch (form) {
                case DAYS:
                    return "days";
                case WEEKS:
                    return "weeks";
                case MONTH:
                    return "month";
                case PLACE:
                    return "place";
                case YEAR:
                    return "year";
                default:
                    return "easter";
            }
        }

        static boolean isA(int form, int a) {
            switch (form) {
                case DAYS:
                    return a == 0;
                case WEEKS:
                case PLACE:
                    return a >= 1 && a <= 127;
                case MONTH:
                    return a >= -31 && a <= 31 && a != 0;
                case YEAR:
                    // The months of the wall's first year, a LEAP one, are 0 to 11.
                    return a >= 101 && a <= 1231 && a / 100 <= 12
                        && a % 100 >= 1 && a % 100 <= Days.lengthOf(a / 100 - 1);
                default:
                    return a >= -80 && a <= 240;
            }
        }

        static boolean isB(int form, int b) {
            switch (form) {
                case MONTH:
                case YEAR:
                    return b == 0 || b == 1;
                case PLACE:
                    return b >= -8 && b <= 8 && b != 0;
                default:
                    return b == 0;
            }
        }

        boolean isLike(Rule other) {
            return form == other.form && every == other.every && a == other.a && b == other.b;
        }

        Rule startingAt(int day) {
            return new Rule(form, every, a, b, day);
        }

        int unitOf(int day) {
            switch (form) {
                case DAYS:
                    return day;
                case WEEKS:
                    return Days.weekOf(day);
                case MONTH:
                case PLACE:
                    return Days.monthOf(day);
                default:
                    return Days.yearsTo(day);
            }
        }

        /** Whether that DAY is one of the RULE from START on, by its words alone. */
        boolean isOf(int day) {
            return day >= start && day <= LAST_DAY
                && Math.floorMod(unitOf(day) - unitOf(start), every) == 0 && isFit(day);
        }

        private boolean isFit(int day) {
            int month = Days.monthOf(day);
            int ofMonth = day - Days.firstOf(month) + 1;
            switch (form) {
                case DAYS:
                    return true;
                case WEEKS:
                    return setDays(day, day) == 1;
                case MONTH:
                    return ofMonth == dayOfMonth(Days.lengthOf(month));
                case PLACE:
                    return setDays(day, day) == 1 && (b > 0 ? setDays(day - ofMonth + 1, day) == b
                        : setDays(day, day - ofMonth + Days.lengthOf(month)) == -b);
                case YEAR:
                    return isDate(100 * (month % 12 + 1) + ofMonth, Days.lengthOf(month));
                default:
                    return Days.easterOf(Days.yearsTo(day)) + a == day;
            }
        }

        /** Which day of a month that long FORM 2 means; NONE without one. */
        private int dayOfMonth(int length) {
            int p = a > 0 ? a : length + 1 + a;
            if (p >= 1 && p <= length) {
                return p;
            }
            return b == 0 ? NONE : a > 0 ? length : 1;
        }

        private boolean isDate(int date, int monthLength) {
            return date == a || a == LEAP_DATE && b == 1 && date == 228 && monthLength == 28;
        }

        /** How many of these DAYS have a WEEKDAY in the set A. */
        private int setDays(int from, int to) {
            int found = 0;
            for (int day = from; day <= to; day++) {
                found += a >> Math.floorMod(day + 5, 7) & 1;
            }
            return found;
        }

        /** The first (backwards the last) FIT DAY of a unit, from low to high; NONE without one. */
        int fitIn(int unit, int low, int high, boolean isBack) {
            int day = NONE;
            switch (form) {
                case DAYS:
                    day = unit;
                    break;
                case WEEKS:
                    day = weekdayIn(unit, low, high, isBack);
                    break;
                case MONTH:
                    day = dayOfMonth(Days.lengthOf(unit));
                    // Without one it stays NONE.
                    day += day == NONE ? 0 : Days.firstOf(unit) - 1;
                    break;
                case PLACE:
                    day = placeIn(Days.firstOf(unit), Days.lengthOf(unit));
                    break;
                case YEAR:
                    day = dateIn(Days.firstOf(12 * unit + a / 100 - 1), Days.lengthOf(12 * unit + a / 100 - 1));
                    break;
                default:
                    day = Days.easterOf(unit) + a;
                    break;
            }
            return day >= low && day <= high ? day : NONE;
        }

        /** Of a week, the only unit that can have several FIT DAYS. */
        private int weekdayIn(int week, int low, int high, boolean isBack) {
            for (int k = 0; k < 7; k++) {
                int weekday = isBack ? 6 - k : k;
                int day = 7 * week - 5 + weekday;
                if (day >= low && day <= high && (a >> weekday & 1) != 0) {
                    return day;
                }
            }
            return NONE;
        }

        private int placeIn(int first, int length) {
            int left = Math.abs(b);
            for (int k = 0; k < length; k++) {
                int day = b > 0 ? first + k : first + length - 1 - k;
                left -= a >> Math.floorMod(day + 5, 7) & 1;
                if (left == 0) {
                    return day;
                }
            }
            return NONE;
        }

        /** Only 29 February can be beyond its month. */
        private int dateIn(int first, int length) {
            int ofMonth = a % 100;
            if (ofMonth <= length) {
                return first + ofMonth - 1;
            }
            return b == 0 ? NONE : first + length - 1;
        }

        /** The first DAY of the RULE from that DAY on; NONE without one. */
        int earliestFrom(int day) {
            int low = Math.max(day, start);
            if (low > LAST_DAY) {
                return NONE;
            }
            int unit = unitOf(low);
            int late = Math.floorMod(unit - unitOf(start), every);
            int step = Math.max(every, 1);
            int last = unitOf(LAST_DAY);
            for (int u = late == 0 ? unit : unit - late + step; u <= last; u += step) {
                int found = fitIn(u, low, LAST_DAY, false);
                if (found != NONE) {
                    return found;
                }
            }
            return NONE;
        }

        /** The last DAY of the RULE till that DAY; NONE without one. */
        int latestTill(int day) {
            int high = Math.min(day, LAST_DAY);
            if (high < start) {
                return NONE;
            }
            int unit = unitOf(high);
            int first = unitOf(start);
            int step = Math.max(every, 1);
            for (int u = unit - Math.floorMod(unit - first, every); u >= first; u -= step) {
                int found = fitIn(u, start, high, true);
                if (found != NONE) {
                    return found;
                }
            }
            return NONE;
        }

        /** The DAY of the RULE with k before it; NONE without one. */
        int dayAfter(int k) {
            int day = earliestFrom(start);
            for (int n = 0; n < k && day != NONE; n++) {
                day = earliestFrom(day + 1);
            }
            return day;
        }

        private int periodLength() {
            switch (form) {
                case DAYS:
                    return every;
                case WEEKS:
                    return 7 * every;
                case MONTH:
                case PLACE:
                    return DAYS_OF_28_YEARS * every / greatestDivisor(every, 336);
                case YEAR:
                    return DAYS_OF_28_YEARS * every / greatestDivisor(every, 28);
                default:
                    return DAY_COUNT;
            }
        }

        static int periodOfBoth(Rule one, Rule other) {
            int first = one.periodLength();
            int second = other.periodLength();
            long both = (long) first / greatestDivisor(first, second) * second;
            return both < DAY_COUNT ? (int) both : DAY_COUNT;
        }

        private static int greatestDivisor(int one, int other) {
            int greater = Math.max(one, 1);
            int smaller = other;
            for (int n = 0; n < DAY_COUNT && smaller > 0; n++) {
                int rest = greater % smaller;
                greater = smaller;
                smaller = rest;
            }
            return greater;
        }
    }

    /** A RULE with all that a wall keeps of one SERIES. */
    private static final class Series {
        static final int STRUCK = -1;

        final Rule rule;
        int last;
        int minute = 540;
        int length = 60;
        int people = 1;
        boolean isSkipping;
        int remind = NONE;
        int exceptionCount;
        final int[] exceptionDays = new int[MOST_EXCEPTIONS];
        /** Where each EXCEPTION is MOVED, or STRUCK. */
        final int[] exceptionTimes = new int[MOST_EXCEPTIONS];
        final DaySet rungDays = new DaySet();

        Series(Rule rule, int last) {
            this.rule = rule;
            this.last = last;
        }

        void takeSettings(Series other) {
            minute = other.minute;
            length = other.length;
            people = other.people;
            isSkipping = other.isSkipping;
            remind = other.remind;
        }

        boolean hasSettingsOf(Series other) {
            return minute == other.minute && length == other.length && people == other.people
                && isSkipping == other.isSkipping && remind == other.remind;
        }

        boolean isRuleDay(int day) {
            return day <= last && rule.isOf(day);
        }

        int exceptionAt(int day) {
            for (int k = 0; k < exceptionCount; k++) {
                if (exceptionDays[k] == day) {
                    return k;
                }
            }
            return NONE;
        }

        void addException(int day, int time) {
            if (exceptionCount < MOST_EXCEPTIONS) {
                exceptionDays[exceptionCount] = day;
                exceptionTimes[exceptionCount] = time;
                exceptionCount++;
            }
        }

        void removeException(int place) {
            exceptionCount--;
            for (int k = Math.max(place, 0); k < exceptionCount; k++) {
                exceptionDays[k] = exceptionDays[k + 1];
                exceptionTimes[k] = exceptionTimes[k + 1];
            }
        }

        /** Takes the EXCEPTIONS, and what has rung, from that DAY on from another one. */
        void takeFrom(Series other, int day) {
            for (int k = other.exceptionCount - 1; k >= 0; k--) {
                if (other.exceptionDays[k] >= day) {
                    addException(other.exceptionDays[k], other.exceptionTimes[k]);
                    other.removeException(k);
                }
            }
            rungDays.takeFrom(other.rungDays, day);
        }

        /** Sets LAST; tells how many EXCEPTIONS are gone. */
        int endAt(int day) {
            int before = exceptionCount;
            for (int k = before - 1; k >= 0; k--) {
                if (exceptionDays[k] > day) {
                    removeException(k);
                }
            }
            last = day;
            return before - exceptionCount;
        }

        boolean wouldOutlastDay(int newLength) {
            for (int k = 0; k < exceptionCount; k++) {
                int time = exceptionTimes[k];
                if (time != STRUCK && time % DAY_MINUTES + newLength > DAY_MINUTES) {
                    return true;
                }
            }
            return false;
        }

        /** Whether that DAY has an OCCURRENCE of its own, at MINUTE. */
        boolean occursOn(int day, DaySet holidays) {
            return day <= last && exceptionAt(day) == NONE && !(isSkipping && holidays.has(day)) && rule.isOf(day);
        }

        boolean isMovedTo(int place, int day) {
            return exceptionTimes[place] != STRUCK && exceptionTimes[place] / DAY_MINUTES == day;
        }

        int movedTo(int day) {
            int found = 0;
            for (int k = 0; k < exceptionCount; k++) {
                if (isMovedTo(k, day)) {
                    found++;
                }
            }
            return found;
        }

        int kindOf(int day, DaySet holidays) {
            if (day > last || !rule.isOf(day)) {
                return 0;
            }
            int place = exceptionAt(day);
            if (place != NONE) {
                return exceptionTimes[place] == STRUCK ? 2 : 3;
            }
            return isSkipping && holidays.has(day) ? 4 : 1;
        }

        int earliestFrom(int day) {
            int found = rule.earliestFrom(day);
            return found <= last ? found : NONE;
        }

        int latestTill(int day) {
            return rule.latestTill(Math.min(day, last));
        }

        int dayCount(int from, int to) {
            int found = 0;
            int top = Math.min(to, last);
            int day = rule.earliestFrom(from);
            for (int n = from; n <= top && day != NONE && day <= top; n++) {
                found++;
                day = rule.earliestFrom(day + 1);
            }
            return found;
        }

        /** Whether the ways to find RULE DAYS agree with the words in 60 DAYS from START on. */
        boolean isRuleSound() {
            int top = Math.min(rule.start + 59, LAST_DAY);
            int found = 0;
            int at = earliestFrom(rule.start);
            for (int day = rule.start; day <= top; day++) {
                boolean isOne = isRuleDay(day);
                if (isOne != (at == day) || isOne && found == 0 && rule.dayAfter(0) != day) {
                    return false;
                }
                if (isOne) {
                    found++;
                    at = earliestFrom(day + 1);
                }
            }
            return dayCount(rule.start, top) == found;
        }
    }

    /** Reads a TEXT word by word. */
    private static final class Reader {
        private static final int WORD_COUNT = 10;
        private static final int MOST_DIGITS = 6;

        /** What the words read so far mean. */
        private final int[] values = new int[WORD_COUNT];

        int faultOf(StringBuilder text) {
            int at = 0;
            for (int word = 0; word < WORD_COUNT; word++) {
                int from = afterBlanks(text, at);
                at = afterWord(text, from);
                if (word == 0 ? !readName(text, from, at) : !readNumber(text, from, at, word)) {
                    return word;
                }
                if (!isInBounds(word, values[word])) {
                    return word;
                }
            }
            return afterBlanks(text, at) < text.length() ? WORD_COUNT : NONE;
        }

        Series seriesRead() {
            Series made = new Series(new Rule(values[0], values[1], values[2], values[3], values[4]), values[5]);
            made.minute = values[6];
            made.length = values[7];
            made.people = values[8];
            made.isSkipping = values[9] == 1;
            return made;
        }

        private static int afterBlanks(StringBuilder text, int from) {
            for (int at = Math.max(from, 0); at < text.length(); at++) {
                if (text.charAt(at) != ' ') {
                    return at;
                }
            }
            return text.length();
        }

        private static int afterWord(StringBuilder text, int from) {
            for (int at = Math.max(from, 0); at < text.length(); at++) {
                if (text.charAt(at) == ' ') {
                    return at;
                }
            }
            return text.length();
        }

        private boolean readName(StringBuilder text, int from, int to) {
            for (int form = Rule.DAYS; form <= Rule.EASTER; form++) {
                if (isName(text, from, to, Rule.nameOf(form))) {
                    values[0] = form;
                    return true;
                }
            }
            return false;
        }

        private static boolean isName(StringBuilder text, int from, int to, String name) {
            if (from < 0 || to > text.length() || to - from != name.length()) {
                return false;
            }
            for (int k = 0; k < name.length(); k++) {
                if (text.charAt(from + k) != name.charAt(k)) {
                    return false;
                }
            }
            return true;
        }

        private boolean readNumber(StringBuilder text, int from, int to, int word) {
            if (from < 0 || from >= to || to > text.length()) {
                return false;
            }
            boolean isBelow = text.charAt(from) == '-';
            int first = isBelow ? from + 1 : from;
            if (to - first < 1 || to - first > MOST_DIGITS) {
                return false;
            }
            int value = 0;
            for (int at = first; at < to; at++) {
                int digit = text.charAt(at) - '0';
                if (digit < 0 || digit > 9) {
                    return false;
                }
                value = value * 10 + digit;
            }
            values[word] = isBelow ? -value : value;
            return true;
        }

        private boolean isInBounds(int word, int value) {
            switch (word) {
                case 0:
                    return Rule.isForm(value);
                case 1:
                    return value >= 1 && value <= HIGHEST_EVERY;
                case 2:
                    return Rule.isA(values[0], value);
                case 3:
                    return Rule.isB(values[0], value);
                case 4:
                    return isOnWall(value);
                case 5:
                    return value >= values[4] && value <= LAST_DAY;
                case 6:
                    return value >= 0 && value < DAY_MINUTES;
                case 7:
                    return value >= 1 && value <= DAY_MINUTES - values[6];
                case 8:
                    return value >= 1 && value <= ALL_PEOPLE;
                default:
                    return value == 0 || value == 1;
            }
        }
    }

    /** What is put in, kept by TIME, then by source (SERIES ahead of MEETINGS), then by RULE DAY. */
    private static final class Order {
        private static final int SOURCES = MOST_SERIES + MOST_MEETINGS;

        /** In 14 DAYS a SERIES has 14 OCCURRENCES of its own at most, and 12 that are MOVED. */
        private final long[] keys = new long[MOST_SERIES * (14 + MOST_EXCEPTIONS) + MOST_MEETINGS];
        int size;

        void empty() {
            size = 0;
        }

        void enter(int time, int source, int ruleDay) {
            if (size >= keys.length) {
                return;
            }
            long key = ((long) time * SOURCES + source) * DAY_COUNT + ruleDay;
            int place = size;
            while (place > 0 && keys[place - 1] > key) {
                keys[place] = keys[place - 1];
                place--;
            }
            keys[place] = key;
            size++;
        }

        int timeAt(int place) {
            return (int) (keys[place] / DAY_COUNT / SOURCES);
        }

        int sourceAt(int place) {
            return (int) (keys[place] / DAY_COUNT % SOURCES);
        }

        int dayAt(int place) {
            return (int) (keys[place] % DAY_COUNT);
        }
    }

    private static final class Meeting {
        final int owner;
        final int room;
        final int length;
        int time;
        int version = 1;
        int guests;
        int handedOn;
        boolean isStanding = true;
        final int[] seen = new int[PERSON_COUNT];
        final int[] answers = new int[PERSON_COUNT];
        final int[] askedTimes = new int[PERSON_COUNT];

        Meeting(int owner, int room, int time, int length, int guests) {
            this.owner = owner;
            this.room = room;
            this.time = time;
            this.length = length;
            this.guests = guests;
            Arrays.fill(askedTimes, NONE);
        }

        boolean isGuest(int person) {
            return (guests >> person & 1) != 0;
        }

        /** Whether that one would be in the way of this one, were this one at that TIME. */
        boolean wouldMeet(Meeting other, int newTime) {
            return room != NONE && other.isStanding && other.room == room
                && other.time < newTime + length && newTime < other.time + other.length;
        }

        void putTo(int newTime) {
            time = newTime;
            version++;
            Arrays.fill(askedTimes, NONE);
        }

        void look(int person) {
            if (seen[person] != version) {
                seen[person] = version;
                answers[person] = 0;
                askedTimes[person] = NONE;
            }
        }

        void handOn(int person, int other) {
            handedOn |= 1 << person;
            guests = guests & ~(1 << person) | 1 << other;
            seen[other] = 0;
            answers[other] = 0;
            askedTimes[other] = NONE;
        }

        int busyPeople() {
            int set = 1 << owner;
            for (int person = 0; person < PERSON_COUNT; person++) {
                if (isGuest(person) && answers[person] != NO) {
                    set |= 1 << person;
                }
            }
            return set;
        }

        int sureGuests() {
            int set = 0;
            for (int person = 0; person < PERSON_COUNT; person++) {
                if (isGuest(person) && seen[person] == version && answers[person] == 1) {
                    set |= 1 << person;
                }
            }
            return set;
        }
    }

    /** The CLOCK with its last RINGS. */
    private static final class Clock {
        private static final int KEPT = 8;

        int now;
        int ringCount;
        private final int[] ringTimes = new int[KEPT];
        private final int[] ringNumbers = new int[KEPT];

        int today() {
            return now / DAY_MINUTES;
        }

        void ring(int time, int number) {
            int place = Math.floorMod(ringCount, KEPT);
            ringTimes[place] = time;
            ringNumbers[place] = number;
            ringCount++;
        }

        void writeRings(StringBuilder line) {
            line.setLength(0);
            for (int n = Math.max(0, ringCount - KEPT); n < ringCount; n++) {
                if (line.length() > 0) {
                    line.append(' ');
                }
                int place = Math.floorMod(n, KEPT);
                line.append(ringTimes[place]).append('s').append(ringNumbers[place]);
            }
        }
    }

    /** The changes of one person's ZONE. */
    private static final class Zone {
        private static final int MOST_CHANGES = 8;

        int size;
        private final int[] days = new int[MOST_CHANGES];
        private final int[] shifts = new int[MOST_CHANGES];

        private int placeOf(int day) {
            for (int k = 0; k < size; k++) {
                if (days[k] == day) {
                    return k;
                }
            }
            return size;
        }

        boolean hasRoomFor(int day) {
            return placeOf(day) < MOST_CHANGES;
        }

        void change(int day, int shift) {
            int place = placeOf(day);
            if (place >= MOST_CHANGES) {
                return;
            }
            days[place] = day;
            shifts[place] = shift;
            size = Math.max(size, place + 1);
        }

        int shiftOn(int day) {
            int latest = NONE;
            int shift = 0;
            for (int k = 0; k < size; k++) {
                if (days[k] <= day && days[k] > latest) {
                    latest = days[k];
                    shift = shifts[k];
                }
            }
            return shift;
        }
    }

    /** The TASKS with their NEEDS, and a row for what is DONE when. */
    private static final class Tasks {
        private static final int UNKNOWN = -2;

        int size;
        final int[] lengths = new int[MOST_TASKS];
        final int[] needs = new int[MOST_TASKS];
        final int[] doneDays = new int[MOST_TASKS];

        /** The set of those that it NEEDS, also through others. */
        int allNeedsOf(int task) {
            int set = needs[task];
            for (int round = 0; round < size; round++) {
                for (int k = 0; k < size; k++) {
                    if ((set >> k & 1) != 0) {
                        set |= needs[k];
                    }
                }
            }
            return set;
        }

        void forgetDone() {
            Arrays.fill(doneDays, UNKNOWN);
        }

        boolean isReady(int task) {
            boolean isReady = doneDays[task] == UNKNOWN;
            for (int k = 0; k < size; k++) {
                if ((needs[task] >> k & 1) != 0 && doneDays[k] == UNKNOWN) {
                    isReady = false;
                }
            }
            return isReady;
        }

        /** From which DAY on a ready one may begin; beyond the wall, if one that it NEEDS is never DONE. */
        int beginOf(int task, int day) {
            int begin = day;
            for (int k = 0; k < size; k++) {
                if ((needs[task] >> k & 1) != 0) {
                    begin = Math.max(begin, doneDays[k] == NONE ? DAY_COUNT : doneDays[k] + 1);
                }
            }
            return begin;
        }
    }

    /** Both COPIES of the NOTES and their BASE; NONE is the value of one that is not there. */
    private static final class Notes {
        private final int[] first = new int[NOTE_NUMBERS];
        private final int[] second = new int[NOTE_NUMBERS];
        private final int[] base = new int[NOTE_NUMBERS];

        Notes() {
            Arrays.fill(first, NONE);
            Arrays.fill(second, NONE);
            Arrays.fill(base, NONE);
        }

        int[] rowOf(int copy) {
            return copy == 0 ? first : second;
        }

        int sizeOf(int copy) {
            int size = 0;
            int[] row = rowOf(copy);
            for (int number = 0; number < NOTE_NUMBERS; number++) {
                if (row[number] != NONE) {
                    size++;
                }
            }
            return size;
        }

        private int together(int number, boolean isSecondFirst) {
            int one = isSecondFirst ? second[number] : first[number];
            int other = isSecondFirst ? first[number] : second[number];
            if (one == NONE || one == other) {
                return other;
            }
            if (other == NONE) {
                return one;
            }
            if (one == base[number]) {
                return other;
            }
            return other == base[number] ? one : Math.max(one, other);
        }

        void bringTogether(boolean isSecondFirst) {
            for (int number = 0; number < NOTE_NUMBERS; number++) {
                int value = together(number, isSecondFirst);
                first[number] = value;
                second[number] = value;
                base[number] = value;
            }
        }

        boolean isSameBothWays() {
            for (int number = 0; number < NOTE_NUMBERS; number++) {
                if (together(number, false) != together(number, true)) {
                    return false;
                }
            }
            return true;
        }

        void writeCopy(int copy, StringBuilder line) {
            line.setLength(0);
            int[] row = rowOf(copy);
            for (int number = 0; number < NOTE_NUMBERS; number++) {
                if (row[number] != NONE) {
                    if (line.length() > 0) {
                        line.append(' ');
                    }
                    line.append(number).append('=').append(row[number]);
                }
            }
        }
    }
}
