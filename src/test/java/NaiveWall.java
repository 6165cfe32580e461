import java.time.LocalDate;
import java.time.temporal.ChronoUnit;
import java.util.ArrayList;
import java.util.HashSet;
import java.util.List;
import java.util.Map;
import java.util.Set;
import java.util.TreeMap;

/**
 * The document once more, as slowly and plainly as it can be said: every day and every minute is looked at.
 * WallModelTest plays the same calls on this and on Daywall. It shares no code with Daywall.
 */
public final class NaiveWall {
    static final int LAST = 36524;
    static final LocalDate ZERO = LocalDate.of(2000, 1, 1);
    static final LocalDate[] DATES = new LocalDate[LAST + 1];
    static final int[] EASTERS = new int[100];
    static final String[] NAMES = {"days", "weeks", "month", "place", "year", "easter"};

    static {
        for (int d = 0; d <= LAST; d++) {
            DATES[d] = ZERO.plusDays(d);
        }
        for (int c = 0; c < 100; c++) {
            EASTERS[c] = easterByAnotherRule(2000 + c);
        }
    }

    /** The anonymous Gregorian computus, not the document's formula. */
    static int easterByAnotherRule(int y) {
        int a = y % 19, b = y / 100, c = y % 100, d = b / 4, e = b % 4, f = (b + 8) / 25, g = (b - f + 1) / 3;
        int h = (19 * a + b - d - g + 15) % 30, i = c / 4, k = c % 4, l = (32 + 2 * e + 2 * i - h - k) % 7;
        int m = (a + 11 * h + 22 * l) / 451;
        int month = (h + l - 7 * m + 114) / 31, day = (h + l - 7 * m + 114) % 31 + 1;
        return (int) ChronoUnit.DAYS.between(ZERO, LocalDate.of(y, month, day));
    }

    static final class S {
        int form, every, a, b, start, last = LAST, minute = 540, length = 60, people = 1, remind = -1;
        boolean skips;
        TreeMap<Integer, Integer> exceptions = new TreeMap<>();
        Set<Integer> rung = new HashSet<>();

        boolean isRule(int day) {
            return day >= start && day <= LAST && Math.floorMod(unit(form, day) - unit(form, start), every) == 0
                && fits(form, a, b, day);
        }

        boolean isRuleDay(int day) {
            return day <= last && isRule(day);
        }

        List<Integer> all(int from, int to) {
            List<Integer> days = new ArrayList<>();
            for (int d = Math.max(from, 0); d <= to && d <= LAST; d++) {
                if (isRuleDay(d)) {
                    days.add(d);
                }
            }
            return days;
        }

        String text() {
            return NAMES[form] + " " + every + " " + a + " " + b + " " + start + " " + last + " " + minute + " "
                + length + " " + people + " " + (skips ? 1 : 0);
        }
    }

    static final class M {
        int owner, room, time, length, version = 1, guests, handed;
        boolean stands = true;
        int[] seen = new int[6], answer = new int[6], asks = {-1, -1, -1, -1, -1, -1};
    }

    /** time, number (SERIES 0 to 9, MEETINGS from 10), RULE DAY. */
    record Event(int time, int source, int day) implements Comparable<Event> {
        public int compareTo(Event o) {
            return time != o.time ? time - o.time : source != o.source ? source - o.source : day - o.day;
        }
    }

    final List<int[]> holidays = new ArrayList<>();
    final List<S> series = new ArrayList<>();
    final List<M> meetings = new ArrayList<>();
    final List<String> rings = new ArrayList<>();
    final List<TreeMap<Integer, Integer>> zones = new ArrayList<>();
    final List<Integer> lengths = new ArrayList<>();
    final List<Set<Integer>> needs = new ArrayList<>();
    final List<TreeMap<Integer, Integer>> copies = List.of(new TreeMap<>(), new TreeMap<>());
    TreeMap<Integer, Integer> base = new TreeMap<>();
    int hoursFrom = 540, hoursTo = 1020, travel, clock, refused;

    public NaiveWall() {
        for (int p = 0; p < 6; p++) {
            zones.add(new TreeMap<>());
        }
    }

    static int unit(int form, int day) {
        LocalDate t = DATES[day];
        switch (form) {
            case 0: return day;
            case 1: return (day + 5) / 7;
            case 2: case 3: return 12 * (t.getYear() - 2000) + t.getMonthValue() - 1;
            default: return t.getYear();
        }
    }

    static boolean in(int set, LocalDate t) {
        return (set >> t.getDayOfWeek().getValue() - 1 & 1) != 0;
    }

    static boolean fits(int form, int a, int b, int day) {
        LocalDate t = DATES[day];
        int length = t.lengthOfMonth();
        switch (form) {
            case 0:
                return true;
            case 1:
                return in(a, t);
            case 2:
                int p = a > 0 ? a : length + 1 + a;
                int fit = p >= 1 && p <= length ? p : b == 0 ? 99 : a > 0 ? length : 1;
                return t.getDayOfMonth() == fit;
            case 3:
                List<Integer> places = new ArrayList<>();
                for (int k = 1; k <= length; k++) {
                    if (in(a, t.withDayOfMonth(k))) {
                        places.add(k);
                    }
                }
                int at = b > 0 ? b - 1 : places.size() + b;
                return at >= 0 && at < places.size() && places.get(at) == t.getDayOfMonth();
            case 4:
                int date = 100 * t.getMonthValue() + t.getDayOfMonth();
                return date == a || a == 229 && b == 1 && date == 228 && !t.isLeapYear();
            default:
                return EASTERS[t.getYear() - 2000] + a == day;
        }
    }

    static boolean isA(int form, int a) {
        switch (form) {
            case 0: return a == 0;
            case 1: case 3: return 1 <= a && a <= 127;
            case 2: return a != 0 && -31 <= a && a <= 31;
            case 4:
                for (int d = 0; d < 366; d++) {
                    if (100 * DATES[d].getMonthValue() + DATES[d].getDayOfMonth() == a) {
                        return true;
                    }
                }
                return false;
            default: return -80 <= a && a <= 240;
        }
    }

    static boolean isB(int form, int b) {
        return form == 2 || form == 4 ? b == 0 || b == 1 : form == 3 ? b != 0 && -8 <= b && b <= 8 : b == 0;
    }

    static boolean wall(int day) {
        return day >= 0 && day <= LAST;
    }

    boolean isHoliday(int day) {
        for (int[] h : holidays) {
            if (fits(h[0], h[1], h[2], day)) {
                return true;
            }
        }
        return false;
    }

    boolean isWorkday(int day) {
        return DATES[day].getDayOfWeek().getValue() <= 5 && !isHoliday(day);
    }

    static void index(boolean ok) {
        if (!ok) {
            throw new IndexOutOfBoundsException();
        }
    }

    static void argument(boolean ok) {
        if (!ok) {
            throw new IllegalArgumentException();
        }
    }

    static void state(boolean ok) {
        if (!ok) {
            throw new IllegalStateException();
        }
    }

    S s(int k) {
        index(k >= 0 && k < series.size());
        return series.get(k);
    }

    M m(int k) {
        index(k >= 0 && k < meetings.size());
        return meetings.get(k);
    }

    static boolean person(int p) {
        return p >= 0 && p < 6;
    }

    // ---- days

    public int day(int year, int month, int day) {
        argument(year >= 2000 && year <= 2099);
        for (int d = 0; d <= LAST; d++) {
            LocalDate t = DATES[d];
            if (t.getYear() == year && t.getMonthValue() == month && t.getDayOfMonth() == day) {
                return d;
            }
        }
        return -9;
    }

    public int ofDay(int day, int what) {
        index(wall(day));
        argument(what >= 0 && what <= 7);
        LocalDate t = DATES[day];
        return new int[] {t.getYear(), t.getMonthValue(), t.getDayOfMonth(), t.getDayOfWeek().getValue() - 1,
            t.getDayOfYear(), t.lengthOfMonth(), t.isLeapYear() ? 1 : 0, isHoliday(day) ? 1 : 0}[what];
    }

    public String dayText(int day) {
        index(wall(day));
        return DATES[day].toString();
    }

    public int months(int day, int by) {
        index(wall(day));
        argument(by >= -1200 && by <= 1200);
        long d = ChronoUnit.DAYS.between(ZERO, DATES[day].plusMonths(by));
        return d >= 0 && d <= LAST ? (int) d : -1;
    }

    public int between(int from, int to, int what) {
        index(wall(from) && wall(to));
        argument(to >= from && what >= 0 && what <= 2);
        LocalDate f = DATES[from], t = DATES[to];
        int w = unit(2, to) - unit(2, from) - (t.getDayOfMonth() < f.getDayOfMonth() ? 1 : 0);
        return what == 0 ? w / 12 : what == 1 ? w % 12 : (int) ChronoUnit.DAYS.between(f.plusMonths(w), t);
    }

    public int easter(int year) {
        argument(year >= 2000 && year <= 2099);
        return EASTERS[year - 2000];
    }

    public int holiday(int form, int a, int b) {
        argument(form == 4 || form == 5);
        argument(isA(form, a) && isB(form, b));
        state(holidays.size() < 6);
        holidays.add(new int[] {form, a, b});
        return holidays.size() - 1;
    }

    // ---- series

    public int series(int form, int every, int a, int b, int start) {
        argument(form >= 0 && form <= 5 && every >= 1 && every <= 60);
        argument(isA(form, a) && isB(form, b) && wall(start));
        state(series.size() < 10);
        S s = new S();
        s.form = form;
        s.every = every;
        s.a = a;
        s.b = b;
        s.start = start;
        series.add(s);
        return series.size() - 1;
    }

    public int time(int k, int minute, int length) {
        S s = s(k);
        argument(minute >= 0 && minute <= 1439 && length >= 1 && length <= 1440 - minute);
        for (int t : s.exceptions.values()) {
            state(t < 0 || t % 1440 + length <= 1440);
        }
        s.minute = minute;
        s.length = length;
        return minute + length;
    }

    public int people(int k, int set) {
        S s = s(k);
        argument(set >= 1 && set <= 63);
        int old = s.people;
        s.people = set;
        return old;
    }

    private int end(S s, int day) {
        int old = s.exceptions.size();
        s.exceptions.keySet().removeIf(d -> d > day);
        s.last = day;
        return old - s.exceptions.size();
    }

    public int until(int k, int day) {
        S s = s(k);
        argument(day >= s.start && day <= LAST);
        return end(s, day);
    }

    public int often(int k, int n) {
        S s = s(k);
        argument(n >= 1 && n <= 400);
        int found = 0;
        for (int d = s.start; d <= LAST; d++) {
            if (s.isRule(d) && ++found == n) {
                end(s, d);
                return d;
            }
        }
        throw new IllegalStateException();
    }

    public boolean skips(int k, boolean is) {
        S s = s(k);
        boolean old = s.skips;
        s.skips = is;
        return old;
    }

    private int except(S s, int day, int time) {
        state(wall(day) && s.isRuleDay(day) && !s.exceptions.containsKey(day) && s.exceptions.size() < 12);
        s.exceptions.put(day, time);
        return s.exceptions.size();
    }

    public int strike(int k, int day) {
        return except(s(k), day, -1);
    }

    public int move(int k, int day, int toDay, int toMinute) {
        S s = s(k);
        argument(wall(toDay) && toMinute >= 0 && toMinute <= 1440 - s.length);
        return except(s, day, toDay * 1440 + toMinute);
    }

    public int mend(int k, int day) {
        S s = s(k);
        state(s.exceptions.remove(day) != null);
        return s.exceptions.size();
    }

    public int cut(int k, int day) {
        S s = s(k);
        state(series.size() < 10);
        List<Integer> before = day < 1 ? List.of() : s.all(0, Math.min(day, LAST + 1) - 1);
        List<Integer> after = s.all(Math.max(day, 0), LAST);
        state(!before.isEmpty() && !after.isEmpty());
        S n = new S();
        n.form = s.form;
        n.every = s.every;
        n.a = s.a;
        n.b = s.b;
        n.start = after.get(0);
        n.last = s.last;
        n.minute = s.minute;
        n.length = s.length;
        n.people = s.people;
        n.skips = s.skips;
        n.remind = s.remind;
        s.last = before.get(before.size() - 1);
        n.exceptions.putAll(s.exceptions.tailMap(day));
        s.exceptions.tailMap(day).clear();
        for (int d : s.rung) {
            if (d >= day) {
                n.rung.add(d);
            }
        }
        s.rung.removeIf(d -> d >= day);
        series.add(n);
        return series.size() - 1;
    }

    public int join(int a, int b) {
        S x = s(a), y = s(b);
        state(x.form == y.form && x.every == y.every && x.a == y.a && x.b == y.b && x.minute == y.minute
            && x.length == y.length && x.people == y.people && x.skips == y.skips && x.remind == y.remind);
        int first = -1;
        for (int d = x.last + 1; d <= LAST && first < 0; d++) {
            if (x.isRule(d)) {
                first = d;
            }
        }
        state(first == y.start && x.exceptions.size() + y.exceptions.size() <= 12);
        x.last = y.last;
        x.exceptions.putAll(y.exceptions);
        x.rung.addAll(y.rung);
        series.remove(b);
        return series.indexOf(x);
    }

    public int drop(int k) {
        s(k);
        series.remove(k);
        return series.size();
    }

    public int copy(int k) {
        S s = s(k);
        state(series.size() < 10);
        S n = new S();
        n.form = s.form;
        n.every = s.every;
        n.a = s.a;
        n.b = s.b;
        n.start = s.start;
        n.last = s.last;
        n.minute = s.minute;
        n.length = s.length;
        n.people = s.people;
        n.skips = s.skips;
        series.add(n);
        return series.size() - 1;
    }

    public int remind(int k, int before) {
        S s = s(k);
        argument(before >= -1 && before <= 1440);
        int old = s.remind;
        s.remind = before;
        return old;
    }

    public int on(int k, int day) {
        S s = s(k);
        index(wall(day));
        int r = 0;
        if (s.isRuleDay(day)) {
            Integer e = s.exceptions.get(day);
            r = e != null ? (e < 0 ? 2 : 3) : s.skips && isHoliday(day) ? 4 : 1;
        }
        for (int t : s.exceptions.values()) {
            if (t >= 0 && t / 1440 == day) {
                r += 8;
            }
        }
        return r;
    }

    public int kth(int k, int n) {
        S s = s(k);
        argument(n >= 0 && n <= 400);
        int before = 0;
        for (int d = 0; d <= LAST; d++) {
            if (s.isRuleDay(d)) {
                if (before == n) {
                    return d;
                }
                before++;
            }
        }
        return -1;
    }

    public int next(int k, int day, boolean isBack) {
        S s = s(k);
        index(wall(day));
        for (int d = day; wall(d); d += isBack ? -1 : 1) {
            if (s.isRuleDay(d)) {
                return d;
            }
        }
        return -1;
    }

    public int many(int k, int from, int to) {
        S s = s(k);
        index(wall(from) && wall(to));
        argument(to >= from && to <= from + 4000);
        return s.all(from, to).size();
    }

    public String text(int k) {
        return s(k).text();
    }

    public int spoiled(int k, int at, int sign) {
        String text = s(k).text();
        index(at >= 0 && at < text.length());
        argument(sign >= 0 && sign <= 11);
        return fault(text.substring(0, at) + "0123456789- ".charAt(sign) + text.substring(at + 1));
    }

    static int fault(String text) {
        String[] words = text.trim().split(" +");
        int[] v = new int[10];
        for (int w = 0; w < 10; w++) {
            if (w >= words.length) {
                return w;
            }
            if (w == 0) {
                v[0] = List.of(NAMES).indexOf(words[0]);
                if (v[0] < 0) {
                    return 0;
                }
                continue;
            }
            if (!words[w].matches("-?[0-9]{1,6}")) {
                return w;
            }
            v[w] = Integer.parseInt(words[w]);
            boolean[] right = {true, v[1] >= 1 && v[1] <= 60, isA(v[0], v[2]), isB(v[0], v[3]), wall(v[4]),
                v[5] >= v[4] && v[5] <= LAST, v[6] >= 0 && v[6] < 1440, v[7] >= 1 && v[7] <= 1440 - v[6],
                v[8] >= 1 && v[8] <= 63, v[9] == 0 || v[9] == 1};
            if (!right[w]) {
                return w;
            }
        }
        return words.length > 10 ? 10 : -1;
    }

    public int same(int a, int b) {
        S x = s(a), y = s(b);
        for (int d = Math.max(x.start, y.start); d <= LAST; d++) {
            if (x.isRule(d) != y.isRule(d)) {
                return d;
            }
        }
        return -1;
    }

    static int gcd(int a, int b) {
        for (int g = Math.min(a, b); ; g--) {
            if (a % g == 0 && b % g == 0) {
                return g;
            }
        }
    }

    static int period(S s) {
        switch (s.form) {
            case 0: return s.every;
            case 1: return 7 * s.every;
            case 2: case 3: return 10227 * s.every / gcd(s.every, 336);
            case 4: return 10227 * s.every / gcd(s.every, 28);
            default: return 36525;
        }
    }

    public int period(int a, int b) {
        int p = period(s(a)), q = period(s(b));
        for (long n = p; n < 36525; n += p) {
            if (n % q == 0) {
                return (int) n;
            }
        }
        return 36525;
    }

    public int differs(int a, int b, int from, int to) {
        S x = s(a), y = s(b);
        index(wall(from) && wall(to));
        argument(to >= from && to <= from + 400);
        Set<Integer> one = new HashSet<>(x.all(from, to)), both = new HashSet<>(one), other = new HashSet<>(y.all(from, to));
        both.retainAll(other);
        return one.size() + other.size() - 2 * both.size();
    }

    /** All OCCURRENCES with their TIME in these DAYS. */
    private List<Event> occurrences(int k, int from, int to) {
        S s = series.get(k);
        List<Event> found = new ArrayList<>();
        for (int d = Math.max(from, 0); d <= to && d <= LAST; d++) {
            if (s.isRuleDay(d) && !s.exceptions.containsKey(d) && !(s.skips && isHoliday(d))) {
                found.add(new Event(d * 1440 + s.minute, k, d));
            }
        }
        for (Map.Entry<Integer, Integer> e : s.exceptions.entrySet()) {
            if (e.getValue() >= from * 1440 && e.getValue() < (to + 1) * 1440 && e.getValue() >= 0) {
                found.add(new Event(e.getValue(), k, e.getKey()));
            }
        }
        return found;
    }

    public String agenda(int from, int to) {
        index(wall(from) && wall(to));
        argument(to >= from && to <= from + 13);
        List<Event> all = new ArrayList<>();
        for (int k = 0; k < series.size(); k++) {
            all.addAll(occurrences(k, from, to));
        }
        for (int k = 0; k < meetings.size(); k++) {
            M m = meetings.get(k);
            if (m.stands && m.time / 1440 >= from && m.time / 1440 <= to) {
                all.add(new Event(m.time, 10 + k, 0));
            }
        }
        all.sort(null);
        List<String> words = new ArrayList<>();
        for (Event e : all) {
            words.add(e.time + (e.source < 10 ? "s" + e.source : "m" + (e.source - 10)));
        }
        return String.join(" ", words);
    }

    // ---- meetings

    private int inWay(M self, int room, int time, int length) {
        int best = -1;
        if (room < 0) {
            return best;
        }
        for (int k = 0; k < meetings.size(); k++) {
            M m = meetings.get(k);
            if (m == self || !m.stands || m.room != room) {
                continue;
            }
            boolean shares = false;
            for (int t = time; t < time + length; t++) {
                shares |= t >= m.time && t < m.time + m.length;
            }
            if (shares && (best < 0 || m.time < meetings.get(best).time)) {
                best = k;
            }
        }
        return best;
    }

    public int meet(int owner, int room, int day, int minute, int length, int guests) {
        index(person(owner) && room >= -1 && room <= 2 && wall(day));
        argument(minute >= 0 && minute <= 1439 && length >= 1 && length <= 1440 - minute);
        argument(guests >= 0 && guests <= 63 && (guests & 1 << owner) == 0);
        state(meetings.size() < 24);
        int way = inWay(null, room, day * 1440 + minute, length);
        if (way >= 0) {
            return -2 - way;
        }
        M m = new M();
        m.owner = owner;
        m.room = room;
        m.time = day * 1440 + minute;
        m.length = length;
        m.guests = guests;
        meetings.add(m);
        return meetings.size() - 1;
    }

    private int put(M m, int time) {
        int way = inWay(m, m.room, time, m.length);
        if (way >= 0) {
            return -2 - way;
        }
        m.time = time;
        m.version++;
        m.asks = new int[] {-1, -1, -1, -1, -1, -1};
        return m.version;
    }

    public int put(int k, int day, int minute) {
        M m = m(k);
        index(wall(day));
        argument(minute >= 0 && minute <= 1440 - m.length);
        state(m.stands);
        return put(m, day * 1440 + minute);
    }

    public int cancel(int k) {
        M m = m(k);
        state(m.stands);
        m.stands = false;
        return count(3);
    }

    static boolean guest(M m, int p) {
        return (m.guests & 1 << p) != 0;
    }

    public int answer(int k, int p, int what) {
        M m = m(k);
        index(person(p));
        argument(what >= 0 && what <= 3);
        state(m.stands && guest(m, p));
        if (m.seen[p] != m.version) {
            m.seen[p] = m.version;
            m.answer[p] = 0;
            m.asks[p] = -1;
        }
        m.answer[p] = what == 0 ? m.answer[p] : what;
        return m.version;
    }

    public int ask(int k, int p, int day, int minute) {
        M m = m(k);
        index(person(p) && wall(day));
        argument(minute >= 0 && minute <= 1440 - m.length);
        state(m.stands && guest(m, p) && m.seen[p] == m.version);
        m.answer[p] = 3;
        return m.asks[p] = day * 1440 + minute;
    }

    public int agree(int k, int p) {
        M m = m(k);
        index(person(p));
        state(m.stands && guest(m, p) && m.asks[p] >= 0);
        int r = put(m, m.asks[p]);
        if (r >= 0) {
            m.seen[p] = r;
            m.answer[p] = 1;
        }
        return r;
    }

    public int hand(int k, int p, int o) {
        M m = m(k);
        index(person(p) && person(o));
        state(m.stands && guest(m, p) && !guest(m, o) && m.owner != o && (m.handed & 1 << o) == 0);
        m.handed |= 1 << p;
        m.guests += (1 << o) - (1 << p);
        m.seen[o] = 0;
        m.answer[o] = 0;
        m.asks[o] = -1;
        return m.guests;
    }

    public int ofMeeting(int k, int what) {
        M m = m(k);
        argument(what >= 0 && what <= 7);
        int sure = 0;
        for (int p = 0; p < 6; p++) {
            sure += guest(m, p) && m.seen[p] == m.version && m.answer[p] == 1 ? 1 << p : 0;
        }
        return new int[] {m.stands ? 1 : 0, m.owner, m.room, m.time, m.length, m.version, m.guests, sure}[what];
    }

    public int ofGuest(int k, int p, int what) {
        M m = m(k);
        index(person(p));
        argument(what >= 0 && what <= 3);
        state(guest(m, p));
        return new int[] {m.seen[p], m.answer[p], m.asks[p], m.seen[p] == m.version ? 0 : 1}[what];
    }

    // ---- busy and free

    public int hours(int from, int to) {
        argument(from >= 0 && from <= 1439 && to > from && to <= 1440);
        hoursFrom = from;
        hoursTo = to;
        return to - from;
    }

    public int travel(int minutes) {
        argument(minutes >= 0 && minutes <= 60);
        int old = travel;
        travel = minutes;
        return old;
    }

    private boolean[] busyRow(int p, int day) {
        boolean[] row = new boolean[1440];
        for (int k = 0; k < series.size(); k++) {
            S s = series.get(k);
            if ((s.people & 1 << p) == 0) {
                continue;
            }
            for (Event e : occurrences(k, day, day)) {
                for (int t = 0; t < s.length; t++) {
                    row[e.time % 1440 + t] = true;
                }
            }
        }
        for (M m : meetings) {
            boolean comes = m.owner == p || guest(m, p) && m.answer[p] != 2;
            if (!m.stands || !comes || m.time / 1440 != day) {
                continue;
            }
            int more = m.room < 0 ? 0 : travel;
            for (int t = m.time % 1440 - more; t < m.time % 1440 + m.length + more; t++) {
                if (t >= 0 && t < 1440) {
                    row[t] = true;
                }
            }
        }
        return row;
    }

    private boolean[][] busyRows(int day) {
        boolean[][] rows = new boolean[6][];
        for (int p = 0; p < 6; p++) {
            rows[p] = busyRow(p, day);
        }
        return rows;
    }

    public int busy(int p, int day) {
        index(person(p) && wall(day));
        int n = 0;
        for (boolean b : busyRow(p, day)) {
            n += b ? 1 : 0;
        }
        return n;
    }

    public String free(int people, int day) {
        index(wall(day));
        argument(people >= 1 && people <= 63);
        boolean[][] rows = busyRows(day);
        List<String> words = new ArrayList<>();
        int open = -1;
        for (int t = hoursFrom; t <= hoursTo; t++) {
            boolean free = t < hoursTo;
            for (int p = 0; p < 6 && t < hoursTo; p++) {
                free &= (people & 1 << p) == 0 || !rows[p][t];
            }
            if (free && open < 0) {
                open = t;
            } else if (!free && open >= 0) {
                words.add(open + "-" + t);
                open = -1;
            }
        }
        return String.join(" ", words);
    }

    public int propose(int must, int may, int day, int length) {
        index(wall(day));
        argument(must >= 1 && must <= 63 && may >= 0 && may <= 63 && length >= 1 && length <= 1440);
        int best = -1, least = 99;
        for (int d = day; d <= day + 4 && wall(d); d++) {
            if (!isWorkday(d)) {
                continue;
            }
            boolean[][] rows = busyRows(d);
            for (int t = 0; t < 1440; t += 15) {
                if (t < hoursFrom || t + length > hoursTo) {
                    continue;
                }
                boolean fits = true;
                int trouble = 0;
                for (int p = 0; p < 6; p++) {
                    boolean busy = false;
                    for (int u = t; u < t + length; u++) {
                        busy |= rows[p][u];
                    }
                    if (busy && (must & 1 << p) != 0) {
                        fits = false;
                    } else if (busy && (may & 1 << p) != 0) {
                        trouble++;
                    }
                }
                if (fits && trouble < least) {
                    least = trouble;
                    best = d * 1440 + t;
                }
            }
        }
        return best;
    }

    // ---- clock and zones

    public int tick(int minutes) {
        argument(minutes >= 1 && minutes <= 20160);
        int then = clock + minutes;
        state(then / 1440 <= LAST);
        List<Event> all = new ArrayList<>();
        for (int k = 0; k < series.size(); k++) {
            S s = series.get(k);
            if (s.remind < 0) {
                continue;
            }
            for (Event e : occurrences(k, clock / 1440 - 1, then / 1440 + 2)) {
                int at = e.time - s.remind;
                if (at > clock && at <= then && s.rung.add(e.day)) {
                    all.add(new Event(at, k, e.day));
                }
            }
        }
        all.sort(null);
        for (Event e : all) {
            rings.add(e.time + "s" + e.source);
        }
        clock = then;
        return all.size();
    }

    public String rung() {
        return String.join(" ", rings.subList(Math.max(0, rings.size() - 8), rings.size()));
    }

    public int zone(int p, int day, int shift) {
        index(person(p) && wall(day));
        argument(shift >= -720 && shift <= 840);
        TreeMap<Integer, Integer> z = zones.get(p);
        state(z.containsKey(day) || z.size() < 8);
        z.put(day, shift);
        return z.size();
    }

    public int local(int p, int day, int minute) {
        index(person(p) && wall(day));
        argument(minute >= 0 && minute <= 1439);
        Map.Entry<Integer, Integer> e = zones.get(p).floorEntry(day);
        return day * 1440 + minute + (e == null ? 0 : e.getValue());
    }

    // ---- tasks and notes

    public int task(int length) {
        argument(length >= 1 && length <= 20);
        state(lengths.size() < 8);
        lengths.add(length);
        needs.add(new HashSet<>());
        return lengths.size() - 1;
    }

    private boolean needsAlsoThroughOthers(int task, int other) {
        for (int n : needs.get(task)) {
            if (n == other || needsAlsoThroughOthers(n, other)) {
                return true;
            }
        }
        return false;
    }

    public int need(int task, int other) {
        index(task >= 0 && task < lengths.size() && other >= 0 && other < lengths.size());
        state(task != other && !needs.get(task).contains(other) && !needsAlsoThroughOthers(other, task));
        needs.get(task).add(other);
        return needs.get(task).size();
    }

    public int done(int task, int day) {
        index(task >= 0 && task < lengths.size() && wall(day));
        int begin = day;
        for (int n : needs.get(task)) {
            int end = done(n, day);
            if (end < 0) {
                return -1;
            }
            begin = Math.max(begin, end + 1);
        }
        int left = lengths.get(task);
        for (int d = begin; d <= LAST; d++) {
            if (isWorkday(d) && --left == 0) {
                return d;
            }
        }
        return -1;
    }

    public int note(int copy, int number, int value) {
        index((copy == 0 || copy == 1) && number >= 0 && number <= 9);
        argument(value >= 0 && value <= 99);
        copies.get(copy).put(number, value);
        return copies.get(copy).size();
    }

    public int erase(int copy, int number) {
        index((copy == 0 || copy == 1) && number >= 0 && number <= 9);
        state(copies.get(copy).remove(number) != null);
        return copies.get(copy).size();
    }

    public int merge(boolean isSecondFirst) {
        TreeMap<Integer, Integer> all = new TreeMap<>();
        for (int n = 0; n < 10; n++) {
            Integer x = copies.get(0).get(n), y = copies.get(1).get(n), z = base.get(n);
            if (x != null && y != null) {
                all.put(n, x.equals(y) ? x : x.equals(z) ? y : y.equals(z) ? x : Integer.valueOf(Math.max(x, y)));
            } else if (x != null || y != null) {
                all.put(n, x != null ? x : y);
            }
        }
        for (TreeMap<Integer, Integer> c : copies) {
            c.clear();
            c.putAll(all);
        }
        base = all;
        return all.size();
    }

    public String notes(int copy) {
        index(copy == 0 || copy == 1);
        List<String> words = new ArrayList<>();
        for (Map.Entry<Integer, Integer> e : copies.get(copy).entrySet()) {
            words.add(e.getKey() + "=" + e.getValue());
        }
        return String.join(" ", words);
    }

    // ---- the whole

    public int knock() {
        return ++refused;
    }

    public int count(int what) {
        argument(what >= 0 && what <= 9);
        int stand = 0, exceptions = 0;
        for (M m : meetings) {
            stand += m.stands ? 1 : 0;
        }
        for (S s : series) {
            exceptions += s.exceptions.size();
        }
        return new int[] {series.size(), holidays.size(), meetings.size(), stand, lengths.size(), exceptions, clock,
            rings.size(), copies.get(0).size() + copies.get(1).size(), refused}[what];
    }

    public boolean isSound() {
        return true;
    }

    public long digest() {
        List<Long> v = new ArrayList<>();
        int c = clock / 1440;
        for (int k = 0; k < 10; k++) {
            v.add((long) count(k));
        }
        for (int k = 0; k < series.size(); k++) {
            S s = series.get(k);
            for (int n : new int[] {s.start, s.last, s.remind, s.exceptions.size(), on(k, c), next(k, c, false), kth(k, 1),
                s.text().length()}) {
                v.add((long) n);
            }
        }
        for (int k = 0; k < meetings.size(); k++) {
            for (int what = 0; what < 8; what++) {
                v.add((long) ofMeeting(k, what));
            }
            for (int p = 0; p < 6; p++) {
                for (int what = 0; what < 4 && guest(meetings.get(k), p); what++) {
                    v.add((long) ofGuest(k, p, what));
                }
            }
        }
        for (int p = 0; p < 6; p++) {
            v.add((long) busy(p, c));
            v.add((long) local(p, c, 0));
        }
        for (int k = 0; k < lengths.size(); k++) {
            v.add((long) done(k, c));
        }
        v.add((long) ofDay(c, 7));
        v.add((long) notes(0).length());
        v.add((long) notes(1).length());
        v.add((long) rung().length());
        v.add((long) free(63, c).length());
        v.add(1L);
        long d = 5811;
        for (long n : v) {
            d = d * 31 + n;
        }
        return d;
    }
}
