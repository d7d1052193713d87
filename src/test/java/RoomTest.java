import com.sun.management.ThreadMXBean;
import java.lang.management.ManagementFactory;
import java.util.LinkedHashMap;
import java.util.Map;

/** What one run makes, against the room that all its calls share. */
public final class RoomTest {
    private static final long MOST_OBJECTS = 600_000;
    private static final long MOST_CELLS = 7_300_000;
    private static final int CALLS = 512;
    /** The calls of a run ahead of those that are looked at. */
    private static final int BEFORE = 40;
    /** No object of the machine is smaller, and no field or element takes less than a byte. */
    private static final long LEAST_BYTES = 16;
    /** The panel that the run's ten steps, three on a panel, leave in use. */
    private static final int IN_USE = 3;

    /** A call that is made again and again. */
    private interface Call {
        int on(PulledPanels x, int time);
    }

    private static final ThreadMXBean THREADS = (ThreadMXBean) ManagementFactory.getThreadMXBean();

    public static void main(String[] args) {
        Check.part("room");
        Map<String, Call> calls = calls();
        Check.due("calls of the face", calls.size(), 20);
        for (Map.Entry<String, Call> call : calls.entrySet()) {
            long bytes = bytesOfRun(call.getValue());
            Check.holds(call.getKey() + ": " + bytes + " bytes are a run's", bytes > 0);
            Check.holds(call.getKey() + ": objects in " + bytes + " bytes", bytes / LEAST_BYTES <= MOST_OBJECTS);
            Check.holds(call.getKey() + ": fields and elements in " + bytes + " bytes", bytes <= MOST_CELLS);
        }
        Check.end();
    }

    private static Map<String, Call> calls() {
        Map<String, Call> calls = new LinkedHashMap<>();
        calls.put("setRoom", (x, time) -> x.setRoom(19 + time % 2));
        calls.put("plan", (x, time) -> x.plan(4, 0));
        calls.put("readPlan", (x, time) -> time % 2 == 0 ? x.readPlan() : x.undo());
        calls.put("write", (x, time) -> time % 2 == 0 ? x.write() : x.undo());
        calls.put("pull", (x, time) -> x.pull(time % 3));
        calls.put("pin", (x, time) -> x.pin(5, time % 2 == 0));
        calls.put("wipe", (x, time) -> time % 2 == 0 ? x.wipe(IN_USE) : x.undo());
        calls.put("photo", (x, time) -> x.photo(IN_USE));
        calls.put("ask", (x, time) -> x.ask(time % 6));
        calls.put("type", (x, time) -> x.type((char) time));
        calls.put("clearText", (x, time) -> time % 2 == 0 ? x.clearText() : x.type('1'));
        calls.put("undo", (x, time) -> time % 2 == 0 ? x.pull(0) : x.undo());
        calls.put("keep", (x, time) -> x.keep());
        calls.put("restore", (x, time) -> x.restore());
        calls.put("panel", (x, time) -> x.panel(time % 6, time / 6 % 6));
        calls.put("step", (x, time) -> x.step(time % 20, time / 20 % 7));
        calls.put("photoOf", (x, time) -> x.photoOf(time % 40, time % 2));
        calls.put("wouldBe", (x, time) -> x.wouldBe(time % 6));
        calls.put("photosNeeded", (x, time) -> x.photosNeeded());
        calls.put("count", (x, time) -> x.count(time % 16));
        return calls;
    }

    /** The bytes that the thread asks for: a new object, its plan, a text, and the call up to the last one. */
    private static long bytesOfRun(Call call) {
        // classes are loaded by a run that is not counted
        run(call);
        long before = THREADS.getCurrentThreadAllocatedBytes();
        run(call);
        return THREADS.getCurrentThreadAllocatedBytes() - before;
    }

    private static void run(Call call) {
        PulledPanels x = new PulledPanels();
        for (int step = 0; step < 20; step++) {
            x.plan(4, (1 << step) - 1);
        }
        for (int characters = 0; characters < 9; characters++) {
            x.type(characters % 2 == 0 ? '4' : ';');
        }
        for (int step = 0; step < 10; step++) {
            x.write();
        }
        x.keep();
        for (int time = BEFORE; time < CALLS; time++) {
            call.on(x, time);
        }
    }
}
