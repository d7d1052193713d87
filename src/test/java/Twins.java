import java.util.ArrayList;
import java.util.List;

/** Two objects after the same calls, one of them with a call more that must not be seen by any later one. */
final class Twins {
    /** Makes an object anew, always by the same calls. */
    interface Start {
        PulledPanels make();
    }

    interface Call {
        int on(PulledPanels x);
    }

    private Twins() {
    }

    /** The call answers as it should, and changes nothing. */
    static void refused(String name, int want, Start start, Call call) {
        Check.due(name, call.on(start.make()), want);
        unchanged(name, start, call);
    }

    /** The call is refused whatever was before: with a history that is empty, full, or neither. */
    static void refusedAlways(String name, int want, Call call) {
        refused(name + " of a new object", want, PulledPanels::new, call);
        refused(name + " with one state", want, () -> Lectures.planned(1), call);
        refused(name + " with all things", want, Lectures::busy, call);
        refused(name + " with an empty history", want, Lectures::quiet, call);
    }

    /** Nothing that can be told, undone, restored, read or written shows that the call was made. */
    static void unchanged(String name, Start start, Call call) {
        compare(name + ", then nothing", start, call, x -> 0);
        compare(name + ", then undo once", start, call, PulledPanels::undo);
        compare(name + ", then undo twice", start, call, x -> x.undo() + x.undo());
        compare(name + ", then undo three times", start, call, x -> x.undo() + x.undo() + x.undo());
        compare(name + ", then undo all", start, call, x -> x.undo() + x.undo() + x.undo() + x.undo());
        compare(name + ", then restore", start, call, PulledPanels::restore);
        compare(name + ", then readPlan", start, call, PulledPanels::readPlan);
        compare(name + ", then more to read", start, call, x -> 100 * x.type('1') + x.readPlan());
        compare(name + ", then write", start, call, PulledPanels::write);
    }

    private static void compare(String name, Start start, Call call, Call then) {
        PulledPanels without = start.make();
        PulledPanels with = start.make();
        call.on(with);
        Check.due(name, then.on(with), then.on(without));
        same(name, view(with), view(without));
    }

    static void same(String name, List<String> got, List<String> want) {
        Check.due(name + ": rows", got.size(), want.size());
        for (int i = 0; i < Math.min(got.size(), want.size()); i++) {
            Check.holds(name + ": " + got.get(i) + " in place of " + want.get(i), got.get(i).equals(want.get(i)));
        }
    }

    /** All that is told of an object: with 30 steps and 40 photos by 349 calls, so that 512 are enough. */
    static List<String> view(PulledPanels x) {
        List<String> rows = new ArrayList<>();
        rows.add("count(14) " + x.count(14));
        rows.add("count(15) " + x.count(15));
        rows.addAll(state(x));
        return rows;
    }

    /** The state alone: without the text and the history. */
    static List<String> state(PulledPanels x) {
        List<String> rows = new ArrayList<>();
        for (int what = 0; what <= 13; what++) {
            rows.add("count(" + what + ") " + x.count(what));
        }
        for (int panel = 0; panel < 6; panel++) {
            for (int what = 0; what <= 5; what++) {
                rows.add("panel(" + panel + ", " + what + ") " + x.panel(panel, what));
            }
        }
        int steps = x.count(0);
        for (int step = 0; step < steps; step++) {
            for (int what = 0; what <= 6; what++) {
                rows.add("step(" + step + ", " + what + ") " + x.step(step, what));
            }
        }
        int photos = x.count(5);
        for (int photo = 0; photo < photos; photo++) {
            rows.add("photoOf(" + photo + ", 0) " + x.photoOf(photo, 0));
            rows.add("photoOf(" + photo + ", 1) " + x.photoOf(photo, 1));
        }
        for (int what = 0; what <= 5; what++) {
            rows.add("wouldBe(" + what + ") " + x.wouldBe(what));
        }
        rows.add("photosNeeded() " + x.photosNeeded());
        return rows;
    }
}
