import java.util.List;
import java.util.function.ToIntFunction;

/** The boundary cases that the document names of promises 11 to 15, a test for each sentence. */
public final class HistoryBoundsTest {
    private static final int FULL = PulledPanels.FULL;
    private static final int NOT_POSSIBLE = PulledPanels.NOT_POSSIBLE;
    private static final int NONE = PulledPanels.NONE;

    /** An act that is possible for a quiet object. */
    private record Act(String name, ToIntFunction<PulledPanels> call) {
    }

    private static final List<Act> ACTS = List.of(
        new Act("setRoom(20)", x -> x.setRoom(20)),
        new Act("plan(4, 1)", x -> x.plan(4, 1)),
        new Act("readPlan()", x -> x.readPlan()),
        new Act("write()", x -> x.write()),
        new Act("pull(0)", x -> x.pull(0)),
        new Act("pin(2, true)", x -> x.pin(2, true)),
        new Act("pin(4, true)", x -> x.pin(4, true)),
        new Act("wipe(0)", x -> x.wipe(0)),
        new Act("photo(3)", x -> x.photo(3)),
        new Act("ask(0)", x -> x.ask(0)),
        new Act("restore()", x -> x.restore()));

    public static void main(String[] args) throws ReflectiveOperationException {
        Check.promises(HistoryBoundsTest.class);
        Check.end();
    }

    private static void due(String what, long got, long want) {
        Check.due(what, got, want);
    }

    private static PulledPanels typed(int characters) {
        return Lectures.type(new PulledPanels(), "1;".repeat(30).substring(0, characters));
    }

    private static void promise11SixtyCharacters() {
        Check.part("11: a text of at most 60 characters");
        PulledPanels x = new PulledPanels();
        for (int length = 1; length <= 60; length++) {
            due("type", x.type('1'), length);
            due("count(15)", x.count(15), length);
        }
    }

    private static void promise11SixtyFirstCharacter() {
        Check.part("11: FULL if it has 60 characters");
        for (char c : new char[] {'1', 'x', 0, 0xffff}) {
            Twins.refused("the 61st", FULL, () -> typed(60), x -> x.type(c));
            Twins.refused("the 61st and 62nd", FULL, () -> typed(60), x -> Math.max(x.type(c), x.type(c)));
        }
        PulledPanels x = typed(60);
        x.clearText();
        due("emptied, room again", x.type('1'), 1);
        due("the 60th", typed(59).type('1'), 60);
    }

    private static void promise11AnyCharacter() {
        Check.part("11: any character");
        for (int c = 0; c <= 0xffff; c += c < 300 ? 1 : 997) {
            due("type of " + c, Lectures.planned(1).type((char) c), 1);
        }
        due("type of the last one", new PulledPanels().type((char) 0xffff), 1);
    }

    private static void promise11BehindTheText() {
        Check.part("11: behind the text");
        PulledPanels x = new PulledPanels();
        x.type('4');
        x.type(';');
        x.type('2');
        x.readPlan();
        due("step(0, 0)", x.step(0, 0), 4);
        due("step(1, 0)", x.step(1, 0), 2);
    }

    private static void promise11NoAct() {
        Check.part("11: type is no act");
        for (Twins.Start start : List.<Twins.Start>of(PulledPanels::new, Lectures::busy, Lectures::quiet)) {
            PulledPanels x = start.make();
            int states = x.count(14);
            List<String> state = Twins.state(x);
            x.type('1');
            due("count(14)", x.count(14), states);
            Twins.same("the state", Twins.state(x), state);
        }
    }

    private static void promise12LengthThatItHad() {
        Check.part("12: the length that it had");
        for (int length = 0; length <= 60; length++) {
            PulledPanels x = typed(length);
            due("clearText()", x.clearText(), length);
            due("count(15)", x.count(15), 0);
            due("readPlan()", x.readPlan(), -100);
            due("type", x.type('1'), 1);
        }
    }

    private static void promise12EmptyText() {
        Check.part("12: an empty text is emptied");
        Twins.refused("clearText()", 0, PulledPanels::new, PulledPanels::clearText);
        Twins.refused("clearText()", 0, () -> Lectures.fullWritten(3), PulledPanels::clearText);
        PulledPanels x = typed(60);
        x.clearText();
        due("again", x.clearText(), 0);
    }

    private static void promise12NoAct() {
        Check.part("12: clearText is no act");
        PulledPanels x = Lectures.busy();
        List<String> state = Twins.state(x);
        due("clearText()", x.clearText(), 6);
        due("count(14)", x.count(14), 4);
        Twins.same("the state", Twins.state(x), state);
        x = Lectures.quiet();
        x.clearText();
        due("count(14)", x.count(14), 0);
    }

    private static void promise13EmptyHistory() {
        Check.part("13: NONE if the history is empty");
        Twins.refused("undo() of a new object", NONE, PulledPanels::new, PulledPanels::undo);
        Twins.refused("undo() behind all", NONE, Lectures::quiet, PulledPanels::undo);
        Twins.refused("undo() with a snapshot and a text", NONE, () -> {
            PulledPanels x = new PulledPanels();
            x.keep();
            x.type('1');
            return x;
        }, PulledPanels::undo);
    }

    private static void promise13StatesThatAreLeft() {
        Check.part("13: the number of states that are left");
        for (int acts = 0; acts <= 4; acts++) {
            PulledPanels x = Lectures.small(acts);
            due("count(14)", x.count(14), acts);
            for (int left = acts - 1; left >= 0; left--) {
                due("undo()", x.undo(), left);
                due("count(14)", x.count(14), left);
                due("count(0)", x.count(0), left);
            }
            due("undo()", x.undo(), NONE);
            due("undo()", x.undo(), NONE);
        }
    }

    private static void promise13AtMostFourStates() {
        Check.part("13: a history of at most 4 states");
        PulledPanels x = new PulledPanels();
        for (int act = 1; act <= 30; act++) {
            x.plan(1, 0);
            due("count(14)", x.count(14), Math.min(act, 4));
        }
        for (int act = 0; act < 200; act++) {
            x.pull(act % 3);
            due("count(14)", x.count(14), 4);
        }
    }

    private static void promise13OldestIsDropped() {
        Check.part("13: when one more is recorded, the oldest one is dropped");
        for (int acts = 4; acts <= 12; acts++) {
            PulledPanels x = Lectures.small(acts);
            for (int back = 1; back <= 4; back++) {
                due("undo()", x.undo(), 4 - back);
                due("count(0)", x.count(0), acts - back);
            }
            due("undo()", x.undo(), NONE);
            due("count(0)", x.count(0), acts - 4);
        }
        PulledPanels x = Lectures.small(5);
        x.undo();
        x.undo();
        x.pull(0);
        x.pull(1);
        x.pull(2);
        due("one dropped of those that were left", x.count(14), 4);
        for (int left = 3; left >= 1; left--) {
            due("undo()", x.undo(), left);
            due("count(3)", x.count(3), left - 1);
            due("count(0)", x.count(0), 3);
        }
        due("undo()", x.undo(), 0);
        due("count(0)", x.count(0), 2);
    }

    private static PulledPanels quietPlan() {
        PulledPanels x = Lectures.quiet();
        x.clearText();
        return Lectures.type(x, "2<0;3<5,0");
    }

    private static void promise13EachActIsRecorded() {
        Check.part("13: each act records the state that was before it");
        for (Act act : ACTS) {
            PulledPanels x = quietPlan();
            Check.holds(act.name() + " is no error", act.call().applyAsInt(x) >= 0);
            due(act.name() + ", count(14)", x.count(14), 1);
            Check.holds(act.name() + " changes the state", !Twins.state(x).equals(Twins.state(quietPlan())));
            Twins.unchanged(act.name() + ", undone", HistoryBoundsTest::quietPlan, y -> {
                act.call().applyAsInt(y);
                return y.undo();
            });
        }
    }

    /** A step on a photo alone, a lost one, and one on a panel and a photo; one state in the history. */
    private static PulledPanels photoAndLost() {
        PulledPanels x = Lectures.small(4);
        x.write();
        x.photo(0);
        x.write();
        x.wipe(0);
        x.write();
        x.photo(0);
        for (int step = 0; step < 3; step++) {
            x.ask(step);
        }
        x.keep();
        Lectures.undone(x);
        x.restore();
        return x;
    }

    private static void promise13QuestionsAndPhotosAreUndone() {
        Check.part("13: questions of each kind, and photos, are undone");
        for (int step = 0; step < 3; step++) {
            int each = step;
            due("ask(" + step + ")", photoAndLost().ask(step), (step + 2) % 4);
            Twins.unchanged("ask(" + step + "), undone", HistoryBoundsTest::photoAndLost, x -> x.ask(each) + x.undo());
        }
        Twins.unchanged("photo(0), undone", HistoryBoundsTest::photoAndLost, x -> x.photo(0) + x.undo());
        Twins.unchanged("two acts, undone", HistoryBoundsTest::photoAndLost,
            x -> x.write() + x.photo(0) + x.undo() + x.undo());
        PulledPanels x = Lectures.busy();
        List<String> before = Twins.state(x);
        x.restore();
        x.ask(0);
        x.undo();
        x.undo();
        Twins.same("restore() and ask(0), undone", Twins.state(x), before);
    }

    private static void promise13ActOfAFullHistory() {
        Check.part("13: an act of a full history records too");
        for (Act act : ACTS) {
            PulledPanels x = quietPlan();
            for (int pull = 0; pull < 5; pull++) {
                x.pull(2);
            }
            List<String> before = Twins.state(x);
            act.call().applyAsInt(x);
            due(act.name() + ", count(14)", x.count(14), 4);
            due(act.name() + ", undo()", x.undo(), 3);
            Twins.same(act.name() + ", undone", Twins.state(x), before);
            for (int left = 2; left >= 0; left--) {
                int pulls = x.count(3);
                due(act.name() + ", undo()", x.undo(), left);
                due(act.name() + ", count(3)", x.count(3), pulls - 1);
            }
            due(act.name() + ", undo()", x.undo(), NONE);
        }
    }

    private static void promise13ActsThatAnswerZero() {
        Check.part("13: an act that returns 0 is recorded");
        PulledPanels x = new PulledPanels();
        due("plan(1, 0)", x.plan(1, 0), 0);
        due("count(14)", x.count(14), 1);
        due("write()", x.write(), 0);
        due("count(14)", x.count(14), 2);
        due("ask(0)", x.ask(0), 0);
        due("count(14)", x.count(14), 3);
        x = Lectures.photographed(Lectures.writeTimes(Lectures.small(1), 1), 0, 1);
        due("photo(0)", x.photo(0), 0);
        due("count(14)", x.count(14), 4);
        x = new PulledPanels();
        x.pin(0, true);
        due("pin(0, false)", x.pin(0, false), 0);
        due("count(14)", x.count(14), 2);
        x = new PulledPanels();
        x.pull(0);
        due("pull(0)", x.pull(0), 0);
        due("count(14)", x.count(14), 2);
        x = new PulledPanels();
        x.keep();
        due("restore()", x.restore(), 0);
        due("restore() of the same state", x.restore(), 0);
        due("count(14)", x.count(14), 2);
    }

    private static void promise13RefusedCallsAreNotRecorded() {
        Check.part("13: a call that returns an error or NONE is not recorded");
        List<ToIntFunction<PulledPanels>> calls = List.of(x -> x.setRoom(3), x -> x.setRoom(12), x -> x.plan(0, 0),
            x -> x.plan(1, 1), x -> x.readPlan(), x -> x.write(), x -> x.pull(3), x -> x.pin(6, true), x -> x.pin(0, false),
            x -> x.wipe(6), x -> x.wipe(1), x -> x.wipe(0), x -> x.photo(6), x -> x.photo(0), x -> x.ask(0),
            x -> x.undo(), x -> x.restore());
        PulledPanels x = new PulledPanels();
        for (ToIntFunction<PulledPanels> call : calls) {
            Check.holds("an error or NONE", call.applyAsInt(x) < 0);
            due("count(14)", x.count(14), 0);
        }
        due("undo()", x.undo(), NONE);
    }

    private static void promise13TellingIsNotRecorded() {
        Check.part("13: what is told changes nothing");
        for (Twins.Start start : List.<Twins.Start>of(PulledPanels::new, Lectures::busy, Lectures::quiet)) {
            Twins.unchanged("all that is told", start, x -> Twins.view(x).size());
        }
    }

    private static void promise13NotOfTheTextNorTheSnapshot() {
        Check.part("13: a state is everything but the text, the history and the snapshot");
        PulledPanels x = Lectures.planned(1);
        x.type('1');
        x.pull(0);
        x.type('1');
        x.keep();
        due("undo()", x.undo(), 1);
        due("the text stays", x.count(15), 2);
        due("the snapshot stays", x.restore(), 0);
        due("with the pull", x.count(3), 1);
        x.clearText();
        due("undo()", x.undo(), 1);
        due("the text stays empty", x.count(15), 0);
    }

    private static void promise14StepsThatAreWritten() {
        Check.part("14: how many steps are written");
        due("of a new object", new PulledPanels().keep(), 0);
        due("of planned ones", Lectures.small(30).keep(), 0);
        PulledPanels x = Lectures.full(30);
        for (int written = 1; written <= 30; written++) {
            x.write();
            due("keep()", x.keep(), written);
        }
    }

    private static void promise14InPlaceOfTheOneThatWas() {
        Check.part("14: in place of the one that was");
        PulledPanels x = Lectures.full(3);
        x.keep();
        x.write();
        x.keep();
        x.write();
        due("restore()", x.restore(), 1);
        x.write();
        x.undo();
        x.undo();
        due("undone", x.count(1), 2);
        due("keep()", x.keep(), 2);
        x.write();
        due("restore()", x.restore(), 2);
    }

    private static void promise14NoAct() {
        Check.part("14: keep is no act");
        for (Twins.Start start : List.<Twins.Start>of(PulledPanels::new, Lectures::busy, Lectures::quiet)) {
            PulledPanels x = start.make();
            x.keep();
            Twins.same("keep()", Twins.view(x), Twins.view(start.make()));
            x = start.make();
            x.keep();
            x.undo();
            PulledPanels without = start.make();
            without.undo();
            Twins.same("keep(), then undo()", Twins.view(x), Twins.view(without));
        }
    }

    private static void promise15NoSnapshot() {
        Check.part("15: NONE if there is no snapshot");
        Twins.refused("restore() of a new object", NONE, PulledPanels::new, PulledPanels::restore);
        Twins.refused("restore() with a whole history", NONE, () -> Lectures.fullWritten(6), PulledPanels::restore);
        Twins.refused("restore() with all undone", NONE, () -> Lectures.undone(Lectures.small(3)), PulledPanels::restore);
    }

    private static void promise15SnapshotStays() {
        Check.part("15: the snapshot, which stays");
        PulledPanels x = Lectures.fullWritten(2);
        x.keep();
        List<String> kept = Twins.state(x);
        for (int times = 0; times < 3; times++) {
            x.plan(1, 0);
            x.write();
            x.photo(2);
            due("restore()", x.restore(), 2);
            Twins.same("the state", Twins.state(x), kept);
        }
        due("at once", x.restore(), 2);
        Lectures.undone(x);
        due("with all undone", x.restore(), 2);
        Twins.same("the state", Twins.state(x), kept);
    }

    private static void promise15WholeState() {
        Check.part("15: the whole state is restored");
        PulledPanels x = Lectures.busy();
        x.keep();
        List<String> kept = Twins.state(x);
        x.setRoom(20);
        x.plan(1, 1);
        Lectures.writeTimes(x, 3);
        x.pull(0);
        x.pull(1);
        x.pull(2);
        x.pin(0, true);
        x.pin(3, false);
        x.ask(0);
        x.ask(5);
        x.photo(2);
        x.photo(3);
        due("restore()", x.restore(), 6);
        Twins.same("the state", Twins.state(x), kept);
    }

    private static void promise15PhotosInPlaceOfOthers() {
        Check.part("15: photos of the snapshot come back in place of others");
        PulledPanels x = Lectures.fullWritten(4);
        x.photo(1);
        x.photo(3);
        x.keep();
        List<String> kept = Twins.state(x);
        x.undo();
        x.undo();
        x.pull(0);
        x.pull(1);
        x.photo(0);
        x.photo(2);
        List<String> others = Twins.state(x);
        due("photoOf(0, 0)", x.photoOf(0, 0), 0);
        due("photoOf(1, 1)", x.photoOf(1, 1), 4);
        due("restore()", x.restore(), 4);
        Twins.same("the snapshot", Twins.state(x), kept);
        x.undo();
        Twins.same("undone", Twins.state(x), others);
    }

    private static void promise15NotOfTheTextNorTheHistory() {
        Check.part("15: not of the text, nor of the history; and it is an act");
        PulledPanels x = Lectures.fullWritten(2);
        x.type('1');
        x.keep();
        x.type('2');
        x.undo();
        due("count(14)", x.count(14), 3);
        due("restore()", x.restore(), 2);
        due("count(14)", x.count(14), 4);
        due("count(15)", x.count(15), 2);
        due("restore() of a full history", x.restore(), 2);
        due("count(14)", x.count(14), 4);
        due("undo()", x.undo(), 3);
        due("count(1)", x.count(1), 2);
        due("undo()", x.undo(), 2);
        due("count(1)", x.count(1), 1);
    }

    private static void promise15SnapshotOfEmptyAndFull() {
        Check.part("15: a snapshot of empty boards, and one of a full plan");
        PulledPanels x = new PulledPanels();
        x.keep();
        Lectures.type(x, "1;4");
        x.readPlan();
        x.write();
        due("restore()", x.restore(), 0);
        Twins.same("empty boards", Twins.state(x), Twins.state(new PulledPanels()));
        due("write()", x.write(), NOT_POSSIBLE);
        x = Lectures.writeTimes(Lectures.small(30), 30);
        x.keep();
        x.undo();
        due("restore()", x.restore(), 30);
        due("plan(1, 0)", x.plan(1, 0), FULL);
    }
}
