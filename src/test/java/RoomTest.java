import com.sun.management.ThreadMXBean;
import java.lang.management.ManagementFactory;
import java.util.LinkedHashMap;
import java.util.Map;

/**
 * That all calls of a run fit into the room of which the task tells: 600,000 objects and arrays, 7,300,000 fields and elements.
 * What a call makes is measured in bytes. As an object has 16 bytes at least, and a field or an element one, a run that makes
 * less than 7,300,000 bytes fits into both bounds: so a call may make some 14,000 bytes, if a run has 512 of its kind.
 */
public final class RoomTest {
    private static final long ALL = 7_300_000;
    private static final int CALLS = 512;
    private static final ThreadMXBean THREADS = (ThreadMXBean) ManagementFactory.getThreadMXBean();

    private static int wrong;
    private static long dearest;
    private static Object kept;

    private interface Call {
        Object on(Daywall w);
    }

    public static void main(String[] args) {
        for (int n = 0; n < 2; n++) {
            full();
        }
        long made = bytesOf(null);
        due("the constructor", made, ALL / 20);
        if (made < 1440) {
            wrong++;
            System.out.println("room: this machine does not tell what is made");
        }
        for (Map.Entry<String, Call> call : dearCalls().entrySet()) {
            // Once for the classes that only this call needs.
            bytesOf(call.getValue());
            long bytes = bytesOf(call.getValue());
            dearest = Math.max(dearest, bytes);
            due(call.getKey(), bytes, (ALL - made) / CALLS);
        }
        System.out.println("RoomTest: " + made + " bytes an object, " + dearest + " the dearest call, " + wrong + " wrong");
        if (wrong != 0) {
            System.exit(1);
        }
    }

    private static void due(String what, long bytes, long most) {
        if (bytes > most) {
            wrong++;
            System.out.println("room: " + what + " makes " + bytes + " bytes, let are " + most);
        }
    }

    /** What one call makes on a full wall; without a call, what making a new wall makes. */
    private static long bytesOf(Call call) {
        Daywall w = call == null ? null : full();
        long before = THREADS.getCurrentThreadAllocatedBytes();
        if (call == null) {
            kept = new Daywall();
        } else {
            try {
                kept = call.on(w);
            } catch (IllegalArgumentException | IllegalStateException | IndexOutOfBoundsException e) {
                kept = e;
            }
        }
        return THREADS.getCurrentThreadAllocatedBytes() - before;
    }

    /** Nine series of all days, with 12 moved ones each, 23 meetings, late in the wall, that share no minute. */
    private static Daywall full() {
        Daywall w = new Daywall();
        w.hours(0, 1440);
        for (int k = 0; k < 9; k++) {
            w.series(0, 1, 0, 0, 36510);
            w.time(k, 2 * k, 1);
            w.people(k, 63);
            w.remind(k, 1440);
            for (int n = 0; n < 12; n++) {
                w.move(k, 36510 + n, 36511, 100 + 30 * k + 2 * n);
            }
        }
        for (int k = 0; k < 23; k++) {
            w.meet(0, k % 3, 36511, 1000 + 2 * k, 1, 62);
            w.answer(k, 1, 1);
            w.ask(k, 1, 36512, 1000 + 2 * k);
        }
        for (int k = 0; k < 7; k++) {
            w.task(20);
        }
        for (int k = 0; k < 10; k++) {
            w.note(0, k, 99);
            w.note(1, k, 98);
        }
        return w;
    }

    private static Map<String, Call> dearCalls() {
        Map<String, Call> calls = new LinkedHashMap<>();
        calls.put("day", w -> w.day(2099, 12, 31));
        calls.put("ofDay", w -> w.ofDay(36524, 7));
        calls.put("dayText", w -> w.dayText(36524));
        calls.put("months", w -> w.months(36524, -1199));
        calls.put("between", w -> w.between(0, 36524, 2));
        calls.put("easter", w -> w.easter(2099));
        calls.put("holiday", w -> w.holiday(5, 240, 0));
        calls.put("series", w -> w.series(3, 1, 127, 8, 36500));
        calls.put("time", w -> w.time(8, 700, 1));
        calls.put("people", w -> w.people(8, 1));
        calls.put("until", w -> w.until(8, 36511));
        calls.put("often", w -> w.often(8, 3));
        calls.put("skips", w -> w.skips(8, true));
        calls.put("mend and strike", w -> w.mend(8, 36510) + w.strike(8, 36524));
        calls.put("mend and move", w -> w.mend(8, 36510) + w.move(8, 36524, 36524, 1439));
        calls.put("cut", w -> w.cut(8, 36511));
        calls.put("cut and join", w -> w.join(8, w.cut(8, 36511)));
        calls.put("drop", w -> w.drop(0));
        calls.put("copy", w -> w.copy(8));
        calls.put("remind", w -> w.remind(8, 0));
        calls.put("on", w -> w.on(8, 36511));
        calls.put("kth", w -> w.kth(8, 400));
        calls.put("next", w -> w.next(8, 36524, true));
        calls.put("many", w -> w.many(8, 32524, 36524));
        calls.put("text", w -> w.text(8));
        calls.put("spoiled", w -> w.spoiled(8, 12, 9));
        calls.put("same", w -> w.same(7, 8));
        calls.put("period", w -> w.period(7, 8));
        calls.put("differs", w -> w.differs(7, 8, 36124, 36524));
        calls.put("agenda", w -> w.agenda(36511, 36524));
        calls.put("meet", w -> w.meet(0, 1, 36511, 1439, 1, 62));
        calls.put("meet with one in the way", w -> w.meet(0, 0, 36511, 0, 1440, 62));
        calls.put("put", w -> w.put(22, 36524, 1439));
        calls.put("cancel", w -> w.cancel(22));
        calls.put("answer", w -> w.answer(22, 5, 3));
        calls.put("ask", w -> w.ask(22, 1, 36524, 1439));
        calls.put("agree", w -> w.agree(22, 1));
        calls.put("hand", w -> w.hand(22, 5, 0));
        calls.put("ofMeeting", w -> w.ofMeeting(22, 7));
        calls.put("ofGuest", w -> w.ofGuest(22, 1, 2));
        calls.put("hours", w -> w.hours(1, 1440));
        calls.put("travel", w -> w.travel(60));
        calls.put("busy", w -> w.busy(0, 36511));
        calls.put("free", w -> w.free(63, 36511));
        calls.put("propose", w -> w.propose(32, 31, 36511, 1));
        calls.put("series, remind, tick and rung", w -> w.remind(w.series(0, 1, 0, 0, 0), 0) + w.tick(20160) + w.rung());
        calls.put("zone", w -> w.zone(5, 36524, 840));
        calls.put("local", w -> w.local(5, 36524, 1439));
        calls.put("task", w -> w.task(20));
        calls.put("need", w -> w.need(6, 5));
        calls.put("done", w -> w.done(6, 36400));
        calls.put("note", w -> w.note(1, 9, 99));
        calls.put("erase", w -> w.erase(1, 9));
        calls.put("merge", w -> w.merge(true));
        calls.put("notes", w -> w.notes(1));
        calls.put("knock", w -> w.knock());
        calls.put("count", w -> w.count(5));
        calls.put("isSound", w -> w.isSound());
        calls.put("digest", w -> w.digest());
        calls.put("a refused call", w -> w.done(8, 36525));
        return calls;
    }
}
