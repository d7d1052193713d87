/** The boundary cases that the document names of promises 16 to 21, a test for each sentence. */
public final class ToldBoundsTest {
    private static final int UNKNOWN = PulledPanels.UNKNOWN;
    private static final int BAD_VALUE = PulledPanels.BAD_VALUE;
    private static final int FULL = PulledPanels.FULL;
    private static final int NOT_POSSIBLE = PulledPanels.NOT_POSSIBLE;
    private static final int NONE = PulledPanels.NONE;
    private static final int LEAST = Integer.MIN_VALUE;
    private static final int MOST = Integer.MAX_VALUE;
    private static final int ALL_PANELS = 0b111111;

    public static void main(String[] args) throws ReflectiveOperationException {
        Check.promises(ToldBoundsTest.class);
        Check.end();
    }

    private static void due(String what, long got, long want) {
        Check.due(what, got, want);
    }

    private static void promise16NoSuchPanel() {
        Check.part("16: UNKNOWN for another panel than 0 to 5");
        for (int panel : new int[] {-1, 6, 7, LEAST, MOST}) {
            for (int what = 0; what <= 5; what++) {
                int each = what;
                Twins.refusedAlways("panel(" + panel + ", " + what + ")", UNKNOWN, x -> x.panel(panel, each));
            }
        }
        for (int panel = 0; panel <= 5; panel++) {
            due("panel(" + panel + ", 0)", new PulledPanels().panel(panel, 0), 0);
        }
    }

    private static void promise16NoSuchNumber() {
        Check.part("16: BAD_VALUE for another number than 0 to 5");
        for (int what : new int[] {-1, 6, 7, LEAST, MOST}) {
            for (int panel = 0; panel <= 5; panel++) {
                int each = panel;
                Twins.refusedAlways("panel(" + panel + ", " + what + ")", BAD_VALUE, x -> x.panel(each, what));
            }
        }
    }

    private static void promise16UnknownGoesAhead() {
        Check.part("16: UNKNOWN goes ahead of BAD_VALUE");
        for (int panel : new int[] {-1, 6, LEAST, MOST}) {
            for (int what : new int[] {-1, 6, LEAST, MOST}) {
                due("panel(" + panel + ", " + what + ")", Lectures.busy().panel(panel, what), UNKNOWN);
            }
        }
    }

    private static void promise16EmptyPanels() {
        Check.part("16: an empty panel");
        PulledPanels x = Lectures.fullWritten(1);
        x.wipe(0);
        for (int panel = 0; panel <= 5; panel++) {
            due("panel(" + panel + ", 0)", x.panel(panel, 0), 0);
            due("panel(" + panel + ", 1)", x.panel(panel, 1), 0);
            due("panel(" + panel + ", 5)", x.panel(panel, 5), 0);
        }
    }

    private static void promise16FullPanel() {
        Check.part("16: a full panel");
        PulledPanels x = Lectures.small(20);
        x.setRoom(20);
        for (int lines = 1; lines <= 20; lines++) {
            x.write();
            due("panel(0, 0)", x.panel(0, 0), (1 << lines) - 1);
            due("panel(0, 1)", x.panel(0, 1), lines);
        }
        x = Lectures.planned(1, 2, 3, 4);
        int lines = 0;
        for (int step = 1; step <= 4; step++) {
            x.write();
            lines += step;
            due("panel(0, 1)", x.panel(0, 1), lines);
        }
    }

    private static void promise16FirstAndLastStep() {
        Check.part("16: the steps on it, as bits");
        PulledPanels x = Lectures.fullWritten(30);
        for (int panel = 0; panel <= 5; panel++) {
            due("panel(" + panel + ", 0)", x.panel(panel, 0), 1 << 24 + panel);
            due("panel(" + panel + ", 1)", x.panel(panel, 1), 4);
            due("panel(" + panel + ", 5)", x.panel(panel, 5), 1 << 24 + panel);
        }
        due("the step 29", x.panel(5, 0), 1 << 29);
        due("the step 0", Lectures.fullWritten(1).panel(0, 0), 1);
    }

    private static void promise16WipesOfBothKinds() {
        Check.part("16: how often it was wiped so far");
        PulledPanels x = Lectures.fullWritten(8);
        x.wipe(1);
        x.pull(0);
        x.wipe(0);
        x.wipe(0);
        x.wipe(2);
        int[] want = {2, 3, 1, 1, 1, 1};
        for (int panel = 0; panel <= 5; panel++) {
            due("panel(" + panel + ", 4)", x.panel(panel, 4), want[panel]);
        }
    }

    private static void promise16StepsOnNoPhoto() {
        Check.part("16: the steps on it that are on no photo");
        PulledPanels x = Lectures.small(4);
        Lectures.writeTimes(x, 2);
        due("none is", x.panel(0, 5), 0b11);
        x.photo(0);
        due("both are", x.panel(0, 5), 0);
        x.write();
        due("the last is not", x.panel(0, 5), 0b100);
        x.undo();
        x.undo();
        due("none is any more", x.panel(0, 5), 0b11);
    }

    private static void promise17NoSuchStep() {
        Check.part("17: UNKNOWN for another step");
        for (int step : new int[] {-1, 9, 10, 29, 30, 31, 32, 41, LEAST, MOST}) {
            for (int what = 0; what <= 6; what++) {
                int each = what;
                due("step(" + step + ", " + what + ")", Lectures.busy().step(step, each), UNKNOWN);
            }
            Twins.refusedAlways("step(" + step + ", 3)", UNKNOWN, x -> x.step(step, 3));
        }
        for (int steps = 0; steps <= 30; steps++) {
            PulledPanels x = Lectures.small(steps);
            due("step(" + steps + ", 0) of " + steps, x.step(steps, 0), UNKNOWN);
            due("step(" + (steps - 1) + ", 0) of " + steps, x.step(steps - 1, 0), steps == 0 ? UNKNOWN : 1);
        }
        PulledPanels x = Lectures.small(2);
        x.undo();
        due("planned, but undone", x.step(1, 0), UNKNOWN);
    }

    private static void promise17NoSuchNumber() {
        Check.part("17: BAD_VALUE for another number than 0 to 6");
        for (int what : new int[] {-1, 7, 8, LEAST, MOST}) {
            Twins.refused("step(0, " + what + ")", BAD_VALUE, Lectures::busy, x -> x.step(0, what));
            Twins.refused("step(8, " + what + ")", BAD_VALUE, Lectures::busy, x -> x.step(8, what));
        }
    }

    private static void promise17UnknownGoesAhead() {
        Check.part("17: UNKNOWN goes ahead of BAD_VALUE");
        for (int step : new int[] {-1, 9, 30, LEAST, MOST}) {
            for (int what : new int[] {-1, 7, LEAST, MOST}) {
                due("step(" + step + ", " + what + ")", Lectures.busy().step(step, what), UNKNOWN);
            }
        }
    }

    private static void promise17FirstAndLastStep() {
        Check.part("17: the first and the last step");
        PulledPanels x = Lectures.full(29);
        x.plan(1, (1 << 29) - 1);
        Lectures.writeTimes(x, 29);
        int[] first = {4, 0, 1, NONE, 0, 0, 0};
        int[] last = {1, (1 << 29) - 1, 0, NONE, 0, 0, 0};
        for (int what = 0; what <= 6; what++) {
            due("step(0, " + what + ")", x.step(0, what), first[what]);
            due("step(29, " + what + ")", x.step(29, what), last[what]);
        }
        x.write();
        x.photo(5);
        x.ask(29);
        x.ask(0);
        due("step(0, 5)", x.step(0, 5), 1);
        due("step(0, 6)", x.step(0, 6), 1);
        due("step(28, 6)", x.step(28, 6), 1);
        int[] written = {1, (1 << 29) - 1, 1, 5, 1, 1, 0};
        for (int what = 0; what <= 6; what++) {
            due("step(29, " + what + ")", x.step(29, what), written[what]);
        }
    }

    private static void promise17OnNoPanel() {
        Check.part("17: NONE if it is on none");
        PulledPanels x = Lectures.full(7);
        due("not written", x.step(0, 3), NONE);
        Lectures.writeTimes(x, 6);
        for (int step = 0; step <= 5; step++) {
            due("step(" + step + ", 3)", x.step(step, 3), step);
        }
        x.write();
        due("wiped by a write", x.step(0, 3), NONE);
        due("in its place", x.step(6, 3), 0);
        x.wipe(5);
        due("wiped by hand", x.step(5, 3), NONE);
        due("written still", x.step(5, 2), 1);
    }

    private static void promise17OnAnyPhoto() {
        Check.part("17: on a photo if any photo took it");
        PulledPanels x = Lectures.small(3);
        x.write();
        x.photo(0);
        x.write();
        x.photo(0);
        x.wipe(0);
        x.write();
        x.photo(0);
        for (int step = 0; step < 3; step++) {
            due("step(" + step + ", 4)", x.step(step, 4), 1);
        }
        x.undo();
        due("undone", x.step(2, 4), 0);
        due("not undone", x.step(0, 4) + x.step(1, 4), 2);
    }

    private static void promise17AskedForAndNeeded() {
        Check.part("17: how often it was asked for, and needed by steps that were written");
        PulledPanels x = Lectures.small(1);
        for (int step = 1; step < 30; step++) {
            x.plan(1, 1);
        }
        for (int step = 0; step < 30; step++) {
            x.write();
            due("step(0, 6)", x.step(0, 6), step);
        }
        for (int times = 1; times <= 40; times++) {
            x.ask(0);
            due("step(0, 5)", x.step(0, 5), times);
        }
        due("step(1, 5)", x.step(1, 5), 0);
        due("step(1, 6)", x.step(1, 6), 0);
    }

    private static void promise18PhotoIsNegative() {
        Check.part("18: BAD_VALUE if the photo is negative");
        for (int photo : new int[] {-1, -2, LEAST}) {
            Twins.refusedAlways("photoOf(" + photo + ", 0)", BAD_VALUE, x -> x.photoOf(photo, 0));
            Twins.refusedAlways("photoOf(" + photo + ", 1)", BAD_VALUE, x -> x.photoOf(photo, 1));
        }
    }

    private static void promise18NoSuchNumber() {
        Check.part("18: BAD_VALUE for another number than 0 and 1");
        for (int what : new int[] {-1, 2, 3, LEAST, MOST}) {
            Twins.refused("photoOf(0, " + what + ")", BAD_VALUE, Lectures::busy, x -> x.photoOf(0, what));
            Twins.refused("photoOf(1, " + what + ")", BAD_VALUE, Lectures::busy, x -> x.photoOf(1, what));
        }
    }

    private static void promise18NotSoMany() {
        Check.part("18: NONE if there are not so many");
        for (int photo : new int[] {0, 1, 39, 40, MOST}) {
            Twins.refused("photoOf(" + photo + ", 0)", NONE, PulledPanels::new, x -> x.photoOf(photo, 0));
            Twins.refused("photoOf(" + photo + ", 1)", NONE, PulledPanels::new, x -> x.photoOf(photo, 1));
        }
        PulledPanels x = Lectures.fullWritten(1);
        for (int photos = 0; photos <= 40; photos++) {
            due("photoOf(" + photos + ", 0)", x.photoOf(photos, 0), NONE);
            due("photoOf(" + photos + ", 1)", x.photoOf(photos, 1), NONE);
            due("photoOf(" + (photos - 1) + ", 1)", x.photoOf(photos - 1, 1), photos == 0 ? BAD_VALUE : 1);
            x.photo(0);
        }
        x.undo();
        due("undone", x.photoOf(39, 0), NONE);
        due("photoOf(MOST, 0)", x.photoOf(MOST, 0), NONE);
    }

    private static void promise18BadValueGoesAheadOfNone() {
        Check.part("18: BAD_VALUE goes ahead of NONE");
        for (int photo : new int[] {-1, 0, 2, 40, LEAST, MOST}) {
            for (int what : new int[] {-1, 2, LEAST, MOST}) {
                due("photoOf(" + photo + ", " + what + ")", new PulledPanels().photoOf(photo, what), BAD_VALUE);
            }
        }
    }

    private static void promise18AsTheyWereTaken() {
        Check.part("18: from 0 in the order in which they were taken");
        PulledPanels x = Lectures.full(30);
        for (int photo = 0; photo < 30; photo++) {
            x.write();
            x.photo(photo % 6);
        }
        for (int photo = 0; photo < 30; photo++) {
            due("photoOf(" + photo + ", 0)", x.photoOf(photo, 0), photo % 6);
            due("photoOf(" + photo + ", 1)", x.photoOf(photo, 1), 1 << photo);
        }
    }

    private static void promise19NoSuchNumber() {
        Check.part("19: BAD_VALUE for another number than 0 to 5");
        for (int what : new int[] {-1, 6, 7, LEAST, MOST}) {
            Twins.refusedAlways("wouldBe(" + what + ")", BAD_VALUE, x -> x.wouldBe(what));
        }
    }

    private static void wouldBe(String name, PulledPanels x, int... want) {
        for (int what = 0; what <= 5; what++) {
            due(name + ", wouldBe(" + what + ")", x.wouldBe(what), want[what]);
        }
    }

    private static void promise19NothingToWrite() {
        Check.part("19: without a step that is to be written");
        wouldBe("a new object", new PulledPanels(), 0, 0, 0, 0, 0, 0);
        wouldBe("all written", Lectures.fullWritten(30), 0, 0, 0, 0, 0, 0);
        PulledPanels x = Lectures.writeTimes(Lectures.busy(), 3);
        due("write()", x.write(), NOT_POSSIBLE);
        wouldBe("all of a busy one written", x, 0, 0, 0, 0, 0, 0);
    }

    /** The forecast is what writing everything then brings. */
    private static void asForecast(String name, Twins.Start start) {
        PulledPanels x = start.make();
        int[] would = new int[6];
        for (int what = 0; what <= 5; what++) {
            would[what] = x.wouldBe(what);
        }
        int[] counts = {3, 4, 6, 7, 8, 1};
        int[] before = new int[6];
        for (int what = 0; what <= 5; what++) {
            before[what] = x.count(counts[what]);
        }
        Lectures.writeTimes(x, 31);
        for (int what = 0; what <= 5; what++) {
            due(name + ", wouldBe(" + what + ")", would[what], x.count(counts[what]) - before[what]);
        }
    }

    private static void promise19FromNowOn() {
        Check.part("19: all of them from now on");
        asForecast("busy", Lectures::busy);
        asForecast("quiet", Lectures::quiet);
        asForecast("with all that is counted", ToldBoundsTest::allCounted);
        wouldBe("with all that is counted", allCounted(), 2, 2, 1, 1, 1, 2);
        for (int written = 0; written <= 9; written++) {
            int times = written;
            asForecast("behind " + written, () -> Lectures.writeTimes(Lectures.undone(Lectures.busy()), times));
        }
        PulledPanels x = Lectures.full(1);
        x.pull(0);
        x.plan(4, 1);
        x.plan(4, 1);
        wouldBe("before", x, 3, 2, 1, 0, 0, 3);
        x.write();
        wouldBe("behind one", x, 2, 2, 1, 0, 0, 2);
        x.write();
        wouldBe("behind two", x, 1, 1, 0, 0, 0, 1);
    }

    /** Pulls, wipes, a hidden step, one on a photo alone and a lost one, so far and in the two steps to come. */
    private static PulledPanels allCounted() {
        PulledPanels x = new PulledPanels();
        x.setRoom(4);
        for (int needs : new int[] {0, 0b1, 0, 0, 0, 0, 0b1, 0b10, 0b11, 1 << 8}) {
            x.plan(4, needs);
        }
        x.write();
        x.photo(0);
        Lectures.writeTimes(x, 7);
        for (int what : new int[] {6, 7, 8}) {
            due("so far, count(" + what + ")", x.count(what), 1);
        }
        return x;
    }

    private static void promise19UpToOneThatCannotBe() {
        Check.part("19: up to one that cannot be");
        for (int room = 0; room <= 6; room++) {
            int pins = ALL_PANELS & ~((1 << room) - 1);
            PulledPanels x = Lectures.pinned(Lectures.full(1), pins);
            for (int step = 1; step < 5; step++) {
                x.plan(4, 1);
            }
            int want = room <= 1 ? 1 : 5;
            due("written with " + room + " panels", x.wouldBe(5), want);
            due("wipes with " + room + " panels", x.wouldBe(1), want - 1);
        }
        PulledPanels x = Lectures.pinned(Lectures.fullWritten(1), ALL_PANELS);
        x.plan(4, 1);
        x.plan(1, 1);
        wouldBe("none can be", x, 0, 0, 0, 0, 0, 0);
        x = Lectures.pinned(Lectures.planned(4, 4, 3, 1, 1, 1), ALL_PANELS);
        wouldBe("four can be", x, 0, 0, 0, 0, 0, 4);
    }

    private static void promise19AllThirty() {
        Check.part("19: a plan of 30 steps");
        PulledPanels x = Lectures.full(29);
        x.plan(4, (1 << 29) - 1);
        due("written", x.wouldBe(5), 30);
        due("wipes", x.wouldBe(1), 29);
        due("lost", x.wouldBe(4), 24);
        due("hidden", x.wouldBe(2), 1);
        due("on a photo alone", x.wouldBe(3), 0);
        asForecast("30 steps", () -> {
            PulledPanels y = Lectures.full(29);
            y.plan(4, (1 << 29) - 1);
            return y;
        });
    }

    private static void promise20NothingToWrite() {
        Check.part("20: without a step that is to be written");
        due("a new object", new PulledPanels().photosNeeded(), 0);
        due("all written", Lectures.fullWritten(30).photosNeeded(), 0);
        due("one step", Lectures.small(1).photosNeeded(), 0);
    }

    private static void promise20EachWipeOfAStepOnNoPhoto() {
        Check.part("20: one of each panel that is to be wiped, if any step on it is on no photo");
        for (int steps = 1; steps <= 30; steps++) {
            due("of " + steps, Lectures.full(steps).photosNeeded(), Math.max(steps - 6, 0));
        }
        PulledPanels x = Lectures.full(12);
        for (int step = 0; step < 6; step++) {
            x.write();
            x.photo(step);
            due("photos of " + (step + 1), x.photosNeeded(), 5 - step);
        }
        x = Lectures.small(4);
        x.setRoom(4);
        for (int step = 0; step < 6; step++) {
            x.plan(4, 0);
        }
        Lectures.writeTimes(x, 3);
        due("many steps on one panel", x.photosNeeded(), 1);
        x.photo(0);
        x.write();
        due("one of them is on no photo", x.photosNeeded(), 1);
        x.photo(0);
        due("all are", x.photosNeeded(), 0);
    }

    private static void promise20PanelBehind() {
        Check.part("20: though it be behind");
        PulledPanels x = Lectures.fullWritten(6);
        for (int step = 0; step < 6; step++) {
            x.plan(4, 0);
            due("photosNeeded()", x.photosNeeded(), step + 1);
        }
        for (int column = 0; column < 3; column++) {
            x.pull(column);
            due("pulled", x.photosNeeded(), 6);
        }
    }

    private static void promise20HoweverManyPhotosThereAre() {
        Check.part("20: however many photos there are");
        PulledPanels x = Lectures.photographed(Lectures.writeTimes(Lectures.full(13), 1), 0, 40);
        due("count(5)", x.count(5), 40);
        due("photosNeeded()", x.photosNeeded(), 6);
        due("none can be taken", x.photo(0), FULL);
    }

    private static void promise20StepsThatAreLostAlready() {
        Check.part("20: an empty panel needs no photo, nor does a step that is lost");
        PulledPanels x = Lectures.writeTimes(Lectures.full(12), 6);
        int lost = 0;
        for (int panel : new int[] {1, 3, 0, 2, 4}) {
            if (x.panel(panel, 2) == 0) {
                x.pull(panel / 2);
            }
            x.wipe(panel);
            lost++;
            due("lost", x.count(12), lost);
            due("photosNeeded()", x.photosNeeded(), 6 - lost);
        }
    }

    private static void promise20UpToOneThatCannotBe() {
        Check.part("20: a step that cannot be written wipes nothing");
        due("all are pinned", Lectures.pinned(Lectures.full(12), ALL_PANELS).photosNeeded(), 0);
        due("all but the one in use", Lectures.pinned(Lectures.full(12), ALL_PANELS & ~1).photosNeeded(), 0);
        due("0 and 5", Lectures.pinned(Lectures.full(12), 0b011110).photosNeeded(), 10);
        due("5 alone, then none", Lectures.pinned(Lectures.full(12), 0b011111).photosNeeded(), 0);
    }

    private static void promise20AllThirty() {
        Check.part("20: taken as it tells, nothing is lost");
        PulledPanels x = Lectures.full(30);
        int needed = x.photosNeeded();
        int taken = 0;
        for (int step = 0; step < 30; step++) {
            x.write();
            if (step < 24) {
                taken += x.photo(step % 6) >= 0 ? 1 : 0;
            }
        }
        due("taken", taken, needed);
        due("count(12)", x.count(12), 0);
    }

    private static void promise21NoSuchNumber() {
        Check.part("21: BAD_VALUE for another number than 0 to 15");
        for (int what : new int[] {-1, 16, 17, LEAST, MOST}) {
            Twins.refusedAlways("count(" + what + ")", BAD_VALUE, x -> x.count(what));
        }
        for (int what = 0; what <= 15; what++) {
            due("count(" + what + ")", new PulledPanels().count(what), what == 13 ? 12 : 0);
        }
    }

    private static void promise21StepsAndPhotos() {
        Check.part("21: steps, written ones, and photos, from none to all");
        PulledPanels x = new PulledPanels();
        for (int steps = 1; steps <= 30; steps++) {
            x.plan(1, 0);
            due("count(0)", x.count(0), steps);
        }
        for (int written = 1; written <= 30; written++) {
            x.write();
            due("count(1)", x.count(1), written);
        }
        for (int photos = 1; photos <= 40; photos++) {
            x.photo(2);
            due("count(5)", x.count(5), photos);
        }
        x.photo(2);
        x.plan(1, 0);
        x.write();
        due("full", x.count(0) + x.count(1) + x.count(5), 100);
    }

    private static void promise21WipesOfBothKinds() {
        Check.part("21: wipes so far, of both kinds");
        PulledPanels x = Lectures.full(3);
        x.write();
        x.wipe(0);
        due("by hand", x.count(4), 1);
        Lectures.writeTimes(x, 2);
        due("by a write", x.count(4), 2);
        due("one refused", x.wipe(2), NONE);
        due("count(4)", x.count(4), 2);
    }

    private static void promise21StepsThatAreNowhere() {
        Check.part("21: written steps that are on no panel and on no photo");
        PulledPanels x = Lectures.small(20);
        x.setRoom(20);
        x.plan(1, 0);
        Lectures.writeTimes(x, 20);
        due("none", x.count(12), 0);
        x.wipe(0);
        due("all that are written", x.count(12), 20);
        x.undo();
        x.photo(0);
        x.wipe(0);
        due("all on a photo", x.count(12), 0);
        x.write();
        due("on a panel", x.count(12), 0);
        x.wipe(0);
        due("the last is nowhere", x.count(12), 1);
    }

    private static void promise21RoomHistoryAndText() {
        Check.part("21: the room, the states in the history, the length of the text, at both ends");
        PulledPanels x = new PulledPanels();
        x.setRoom(4);
        due("count(13)", x.count(13), 4);
        x.setRoom(20);
        due("count(13)", x.count(13), 20);
        Lectures.type(x, "x".repeat(61));
        due("count(15)", x.count(15), 60);
        for (int act = 0; act < 9; act++) {
            x.pull(0);
        }
        due("count(14)", x.count(14), 4);
        Lectures.undone(x);
        due("count(14)", x.count(14), 0);
    }
}
