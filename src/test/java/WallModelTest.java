import java.lang.reflect.InvocationTargetException;
import java.lang.reflect.Method;
import java.util.ArrayList;
import java.util.HashMap;
import java.util.List;
import java.util.Map;
import java.util.Random;

/** Plays the same calls, drawn by fixed seeds, on Daywall and on NaiveWall: each answer is to be the same. */
public final class WallModelTest {
    private static final Map<String, Method> REAL = methods(Daywall.class);
    private static final Map<String, Method> NAIVE = methods(NaiveWall.class);
    private static int wrong = 0;

    private final Random random;
    private final Daywall wall = new Daywall();
    private final NaiveWall naive = new NaiveWall();
    private final StringBuilder calls = new StringBuilder();
    /** Most calls are about the DAYS round this one. */
    private final int near;

    private WallModelTest(long seed) {
        random = new Random(seed);
        near = seed % 5 == 0 ? 36480 : seed % 5 == 1 ? 400 + random.nextInt(35000) : 0;
    }

    private static Map<String, Method> methods(Class<?> of) {
        Map<String, Method> found = new HashMap<>();
        for (Method m : of.getDeclaredMethods()) {
            if (java.lang.reflect.Modifier.isPublic(m.getModifiers())) {
                found.put(m.getName(), m);
            }
        }
        return found;
    }

    private int one(int... of) {
        return of[random.nextInt(of.length)];
    }

    private int to(int low, int high) {
        return low + random.nextInt(high - low + 1);
    }

    private boolean in(int percent) {
        return random.nextInt(100) < percent;
    }

    private int wild() {
        return one(Integer.MIN_VALUE, Integer.MAX_VALUE, -1, -2, 100000, 36525, -36525, to(-70, 1500));
    }

    private int day() {
        if (in(80)) {
            return Math.min(near + to(0, 40), NaiveWall.LAST);
        }
        return in(20) ? one(-1, 36525, 0, 36524, Integer.MIN_VALUE, Integer.MAX_VALUE) : to(0, NaiveWall.LAST);
    }

    private int seriesNumber() {
        return naive.series.isEmpty() || in(3) ? to(-1, 10) : to(0, naive.series.size() - 1);
    }

    private int meetingNumber() {
        return naive.meetings.isEmpty() || in(3) ? to(-1, 24) : to(0, naive.meetings.size() - 1);
    }

    private int person() {
        return in(2) ? one(-1, 6, 99) : to(0, 5);
    }

    private int guest(int meeting) {
        if (meeting >= 0 && meeting < naive.meetings.size() && in(85)) {
            int guests = naive.meetings.get(meeting).guests;
            for (int n = 0; n < 20; n++) {
                int p = to(0, 5);
                if ((guests & 1 << p) != 0) {
                    return p;
                }
            }
        }
        return person();
    }

    private int ruleDay(int series) {
        if (series >= 0 && series < naive.series.size() && in(80)) {
            int at = naive.next(series, Math.min(near + to(0, 30), NaiveWall.LAST), false);
            if (at >= 0) {
                return at;
            }
        }
        return day();
    }

    private int minute() {
        return in(5) ? one(-1, 1440, 1439, 0) : in(60) ? 480 + 30 * to(0, 18) : to(0, 1439);
    }

    private int length() {
        return in(5) ? one(0, -1, 1440, 1441, Integer.MAX_VALUE) : in(80) ? 15 * to(1, 8) : to(1, 400);
    }

    private int formA(int form) {
        switch (form) {
            case 0: return in(90) ? 0 : 1;
            case 1: case 3: return in(10) ? one(0, 128, 127, -1) : to(1, 127);
            case 2: return in(40) ? one(31, 30, 29, -31, -30, -29, -1, 1, 28) : to(-32, 32);
            case 4: return in(40) ? one(229, 228, 101, 1231, 301, 230, 1301, 431, 100) : 100 * to(1, 12) + to(1, 31);
            default: return in(30) ? one(-80, 240, -81, 241, 0, 1, 39) : to(-80, 240);
        }
    }

    private int formB(int form) {
        return in(5) ? wild() : form == 2 || form == 4 ? to(0, 1) : form == 3 ? one(1, 2, 3, 4, 5, 6, 7, 8, -1, -2, -3, -5, -8) : 0;
    }

    private int room() {
        return in(3) ? one(-2, 3) : in(60) ? 0 : to(-1, 2);
    }

    private int meetingDay() {
        return in(5) ? day() : Math.min(near + to(0, 3), NaiveWall.LAST);
    }

    /** What was cut or asked for is soon joined or agreed to, and mostly the same one is called again. */
    private boolean isFollowedUp(String name, Object[] with) {
        if (name.equals("cut") && in(50)) {
            return isAlike("join", new Object[] {with[0], naive.series.size() - 1});
        }
        if (name.equals("answer") && in(30)) {
            return isAlike("ask", new Object[] {with[0], with[1], meetingDay(), minute()});
        }
        if (name.equals("ask") && in(50)) {
            return isAlike("agree", new Object[] {with[0], with[1]});
        }
        return true;
    }

    private Object[] arguments(String name) {
        int s = seriesNumber(), m = meetingNumber(), d = day(), form = to(0, 5);
        switch (name) {
            case "day": return new Object[] {in(5) ? one(1999, 2100) : to(2000, 2099), to(-1, 13), to(-1, 32)};
            case "ofDay": return new Object[] {d, to(-1, 8)};
            case "dayText": return new Object[] {d};
            case "months": return new Object[] {d, in(80) ? to(-30, 30) : in(80) ? to(-1201, 1201) : wild()};
            case "between": return new Object[] {d, in(80) ? d + to(0, 1000) : day(), to(in(5) ? -1 : 0, in(5) ? 3 : 2)};
            case "easter": return new Object[] {in(5) ? one(1999, 2100) : to(2000, 2099)};
            case "holiday":
                form = in(5) ? to(-1, 6) : to(4, 5);
                if (in(60)) {
                    return new Object[] {4, 100 * (naive.ofDay(near, 1)) + to(1, 28), 0};
                }
                return new Object[] {form, formA(form), formB(form)};
            case "series":
                form = in(2) ? one(-1, 6) : form;
                return new Object[] {form, in(60) ? to(1, 3) : to(0, 61), formA(form), formB(form),
                    in(70) ? Math.max(0, near + to(-20, 10)) : d};
            case "time": return new Object[] {s, minute(), length()};
            case "people": return new Object[] {s, in(10) ? one(0, 64, -1) : to(1, 63)};
            case "until": return new Object[] {s, d};
            case "often": return new Object[] {s, in(90) ? to(1, 30) : to(0, 401)};
            case "skips": return new Object[] {s, in(70)};
            case "strike": case "mend": return new Object[] {s, ruleDay(s)};
            case "move": return new Object[] {s, ruleDay(s), d, minute()};
            case "cut": return new Object[] {s, d};
            case "join": return new Object[] {s, seriesNumber()};
            case "drop": case "copy": case "text": return new Object[] {s};
            case "remind": return new Object[] {s, in(5) ? one(-2, 1441) : in(20) ? -1 : in(50) ? 0 : to(0, 1440)};
            case "on": return new Object[] {s, d};
            case "kth": return new Object[] {s, in(80) ? to(0, 20) : to(-1, 401)};
            case "next": return new Object[] {s, d, in(50)};
            case "many": return new Object[] {s, d, in(90) ? d + to(0, 100) : d + to(-2, 4001)};
            case "spoiled": return new Object[] {s, to(in(5) ? -1 : 0, 34), to(in(5) ? -1 : 0, in(5) ? 12 : 11)};
            case "same": case "period": return new Object[] {s, seriesNumber()};
            case "differs": return new Object[] {s, seriesNumber(), d, d + to(in(5) ? -1 : 0, in(90) ? 60 : 402)};
            case "agenda": return new Object[] {d, d + to(in(5) ? -1 : 0, in(5) ? 14 : 13)};
            case "meet":
                int owner = person();
                int guests = in(5) ? one(-1, 64) : in(90) && owner >= 0 ? to(0, 63) & ~(1 << owner) : to(0, 63);
                return new Object[] {owner, room(), meetingDay(), minute(), length(), guests};
            case "put": return new Object[] {m, meetingDay(), minute()};
            case "cancel": return new Object[] {in(40) ? m : -1};
            case "answer": return new Object[] {m, guest(m), to(in(3) ? -1 : 0, in(3) ? 4 : 3)};
            case "ask": return new Object[] {m, guest(m), meetingDay(), minute()};
            case "agree": return new Object[] {m, guest(m)};
            case "hand": return new Object[] {m, guest(m), person()};
            case "ofMeeting": return new Object[] {m, to(-1, 8)};
            case "ofGuest": return new Object[] {m, guest(m), to(in(3) ? -1 : 0, in(3) ? 4 : 3)};
            case "hours": return new Object[] {in(5) ? minute() : to(0, 700), in(5) ? minute() : to(600, 1440)};
            case "travel": return new Object[] {to(in(5) ? -1 : 0, in(5) ? 61 : 60)};
            case "busy": return new Object[] {person(), d};
            case "free": return new Object[] {to(in(3) ? 0 : 1, in(3) ? 64 : 63), d};
            case "propose": return new Object[] {to(in(3) ? 0 : 1, in(3) ? 64 : 63), to(in(3) ? -1 : 0, in(3) ? 64 : 63), d, length()};
            case "tick": return new Object[] {in(5) ? one(0, 20161, 20160, -1, Integer.MAX_VALUE) : in(60) ? to(1, 3000) : to(1, 20160)};
            case "zone": return new Object[] {in(50) ? 0 : person(), d, to(in(3) ? -721 : -720, in(3) ? 841 : 840)};
            case "local": return new Object[] {person(), d, minute()};
            case "task": return new Object[] {to(in(5) ? 0 : 1, in(5) ? 21 : 20)};
            case "need": return new Object[] {to(in(3) ? -1 : 0, 7), to(in(3) ? -1 : 0, 7)};
            case "done": return new Object[] {to(in(3) ? -1 : 0, 7), d};
            case "note": return new Object[] {to(in(3) ? -1 : 0, in(3) ? 2 : 1), to(in(3) ? -1 : 0, in(3) ? 10 : 9), in(5) ? to(-1, 100) : to(0, 9)};
            case "erase": return new Object[] {to(in(3) ? -1 : 0, in(3) ? 2 : 1), to(in(3) ? -1 : 0, in(3) ? 10 : 9)};
            case "merge": return new Object[] {in(50)};
            case "notes": return new Object[] {to(in(5) ? -1 : 0, in(5) ? 2 : 1)};
            case "count": return new Object[] {to(-1, 10)};
            default: return new Object[0];
        }
    }

    private static Object played(Method m, Object on, Object[] with) {
        try {
            return m.invoke(on, with);
        } catch (InvocationTargetException e) {
            StackTraceElement[] at = e.getCause().getStackTrace();
            // The library and the machine are not to throw for the class.
            boolean isOwn = at.length > 0 && at[0].getClassName().matches("(Daywall|NaiveWall).*");
            return "throws." + e.getCause().getClass().getSimpleName() + (isOwn ? "" : " not by itself");
        } catch (IllegalAccessException e) {
            throw new RuntimeException(e);
        }
    }

    private boolean isAlike(String name, Object[] with) {
        Object got = played(REAL.get(name), wall, with);
        Object due = played(NAIVE.get(name), naive, with);
        calls.append(name).append(java.util.Arrays.toString(with)).append(" = ").append(due).append('\n');
        if (due.equals(got)) {
            return true;
        }
        wrong++;
        System.out.println(calls + "answered " + got);
        return false;
    }

    private boolean play(List<String> names, int count) {
        for (int n = 0; n < count; n++) {
            String name = names.get(random.nextInt(names.size()));
            Object[] with = arguments(name);
            if (!isAlike(name, with) || !isFollowedUp(name, with)) {
                return false;
            }
            if (n % 60 == 59 && !isAlike("digest", new Object[0])) {
                return false;
            }
        }
        return isAlike("digest", new Object[0]) && isAlike("isSound", new Object[0]);
    }

    /** A second row of names makes a run dwell on one part of the document. */
    private static final String[][] PARTS = {
        {"series", "time", "people", "strike", "move", "cut", "join", "remind", "tick", "tick", "rung", "agenda", "holiday",
            "skips", "on", "until"},
        {"meet", "meet", "put", "answer", "ask", "agree", "hand", "ofGuest", "ofMeeting", "busy", "free", "propose", "agenda",
            "put", "agree", "answer", "ask", "answer", "ask", "agree"},
        {"series", "series", "same", "period", "differs", "kth", "next", "many", "often", "spoiled", "spoiled", "text"},
        {"series", "cut", "cut", "join", "join", "join", "strike", "move", "mend", "remind", "tick", "until", "copy", "drop"},
        {"task", "need", "done", "note", "erase", "merge", "notes", "zone", "local", "holiday", "ofDay"},
    };

    public static void main(String[] args) {
        int runs = args.length > 0 ? Integer.parseInt(args[0]) : 150;
        List<String> all = new ArrayList<>(new java.util.TreeSet<>(REAL.keySet()));
        all.remove("digest");
        all.remove("isSound");
        if (!all.equals(without(NAIVE))) {
            throw new IllegalStateException("the faces are unlike: " + all + without(NAIVE));
        }
        for (int run = 0; run < runs && wrong < 3; run++) {
            List<String> names = new ArrayList<>(all);
            for (int k = 0; k < 12; k++) {
                names.addAll(List.of(PARTS[run % PARTS.length]));
            }
            new WallModelTest(run).play(run % 7 == 6 ? all : names, 300);
        }
        System.out.println("WallModelTest: " + runs + " runs, " + wrong + " wrong");
        if (wrong != 0) {
            System.exit(1);
        }
    }

    private static List<String> without(Map<String, Method> methods) {
        List<String> names = new ArrayList<>(new java.util.TreeSet<>(methods.keySet()));
        names.remove("digest");
        names.remove("isSound");
        return names;
    }
}
