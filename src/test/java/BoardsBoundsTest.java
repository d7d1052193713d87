/** The boundary cases that the document names of promises 5 to 10, a test for each sentence. */
public final class BoardsBoundsTest {
    private static final int UNKNOWN = PulledPanels.UNKNOWN;
    private static final int FULL = PulledPanels.FULL;
    private static final int NOT_POSSIBLE = PulledPanels.NOT_POSSIBLE;
    private static final int NONE = PulledPanels.NONE;
    private static final int[] NO_PANELS = {-1, 6, 7, -6, Integer.MIN_VALUE, Integer.MAX_VALUE};
    private static final int ALL_PANELS = 0b111111;

    public static void main(String[] args) throws ReflectiveOperationException {
        Check.promises(BoardsBoundsTest.class);
        Check.end();
    }

    private static void due(String what, long got, long want) {
        Check.due(what, got, want);
    }

    private static void promise05AllAreWritten() {
        Check.part("5: NOT_POSSIBLE if all are written");
        Twins.refused("write() without a plan", NOT_POSSIBLE, PulledPanels::new, PulledPanels::write);
        Twins.refused("write() behind the only one", NOT_POSSIBLE, () -> Lectures.fullWritten(1), PulledPanels::write);
        Twins.refused("write() behind 6 full ones", NOT_POSSIBLE, () -> Lectures.fullWritten(6), PulledPanels::write);
        Twins.refused("write() behind 30", NOT_POSSIBLE, () -> Lectures.fullWritten(30), PulledPanels::write);
        Twins.refused("write() behind all of a busy one", NOT_POSSIBLE, () -> Lectures.writeTimes(Lectures.busy(), 3),
            PulledPanels::write);
        PulledPanels x = Lectures.small(30);
        for (int step = 0; step < 30; step++) {
            due("write() of " + step, x.write(), step / 12);
            due("count(1)", x.count(1), step + 1);
        }
        due("the 31st", x.write(), NOT_POSSIBLE);
        x.undo();
        due("one is not written again", x.write(), 2);
        due("the 31st", x.write(), NOT_POSSIBLE);
        PulledPanels y = Lectures.fullWritten(1);
        y.plan(4, 0);
        due("planned later", y.write(), 1);
    }

    /** A panel 0 with so many lines, and a step that is to be written. */
    private static PulledPanels before(int room, int linesOnIt, int lines) {
        PulledPanels x = Lectures.small(linesOnIt);
        x.setRoom(room);
        x.plan(lines, 0);
        return Lectures.writeTimes(x, linesOnIt);
    }

    private static void promise05RoomForItsLines() {
        Check.part("5: if the panel in use has room for its lines, it stays in use");
        for (int room = 4; room <= 20; room++) {
            for (int lines = 1; lines <= 4; lines++) {
                PulledPanels x = before(room, room - lines, lines);
                due("write() that fills " + room, x.write(), 0);
                due("panel(0, 1)", x.panel(0, 1), room);
                due("count(4)", x.count(4), 0);
                x = before(room, room - lines + 1, lines);
                due("write() of a line more than " + room, x.write(), 1);
                due("panel(0, 1)", x.panel(0, 1), room - lines + 1);
                due("panel(1, 1)", x.panel(1, 1), lines);
                due("count(2)", x.count(2), 1);
            }
        }
    }

    private static void promise05RoundFrom5To0() {
        Check.part("5: the next panel, going round (0 comes behind 5)");
        PulledPanels x = Lectures.full(30);
        for (int step = 0; step < 30; step++) {
            due("write() of " + step, x.write(), step % 6);
            due("count(2)", x.count(2), step % 6);
            due("panel(" + step % 6 + ", 0)", x.panel(step % 6, 0), 1 << step);
        }
        due("count(4)", x.count(4), 29);
    }

    /** The panel that comes in use, told by the words of the document alone. */
    private static int nextPanel(int inUse, int pins) {
        int panel = inUse;
        for (int i = 0; i < 5; i++) {
            panel = panel == 5 ? 0 : panel + 1;
            if ((pins >> panel & 1) == 0) {
                return panel;
            }
        }
        return NOT_POSSIBLE;
    }

    private static PulledPanels fullInUse(int inUse, int pins) {
        return Lectures.pinned(Lectures.writeTimes(Lectures.full(inUse + 2), inUse + 1), pins);
    }

    private static void promise05PinnedOnesAreLeftOut() {
        Check.part("5: the next panel that is not pinned");
        for (int inUse = 0; inUse < 6; inUse++) {
            for (int pins = 0; pins <= ALL_PANELS; pins++) {
                PulledPanels x = fullInUse(inUse, pins);
                String name = "write() with " + inUse + " in use, pins " + pins;
                int want = nextPanel(inUse, pins);
                due(name, x.write(), want);
                due(name + ", count(2)", x.count(2), want < 0 ? inUse : want);
                due(name + ", count(4)", x.count(4), want < 0 ? inUse : inUse + 1);
                due(name + ", count(1)", x.count(1), want < 0 ? inUse + 1 : inUse + 2);
            }
        }
    }

    private static void promise05PinnedOneInUseKeepsItsRoom() {
        Check.part("5: all are pinned, but the one in use has room");
        for (int lines = 1; lines <= 4; lines++) {
            PulledPanels x = Lectures.pinned(before(12, 12 - lines, lines), ALL_PANELS);
            due("write() of " + lines, x.write(), 0);
            due("panel(0, 1)", x.panel(0, 1), 12);
            Twins.refused("a line more", NOT_POSSIBLE, () -> Lectures.pinned(before(12, 12, 1), ALL_PANELS), PulledPanels::write);
        }
    }

    private static void promise05NotTheOneInUse() {
        Check.part("5: NOT_POSSIBLE if no panel can come in use");
        for (int inUse = 0; inUse < 6; inUse++) {
            int each = inUse;
            int others = ALL_PANELS & ~(1 << inUse);
            Twins.refused("only " + inUse + " is not pinned, and is in use", NOT_POSSIBLE,
                () -> fullInUse(each, others), PulledPanels::write);
            Twins.refused("all are pinned, " + inUse + " is in use", NOT_POSSIBLE,
                () -> fullInUse(each, ALL_PANELS), PulledPanels::write);
            PulledPanels x = fullInUse(inUse, others);
            int far = (inUse + 5) % 6;
            x.pin(far, false);
            due("the last one round from " + inUse, x.write(), far);
        }
    }

    private static void promise05WipeOfAnEmptyPanel() {
        Check.part("5: this counts as a wipe, also if it is empty");
        PulledPanels x = Lectures.full(6);
        for (int step = 0; step < 6; step++) {
            x.write();
            due("count(4)", x.count(4), step);
            due("panel(" + step + ", 4)", x.panel(step, 4), step == 0 ? 0 : 1);
        }
    }

    private static void promise05WipeOfAFullPanel() {
        Check.part("5: all steps on it are on no panel any more");
        PulledPanels x = Lectures.small(24);
        x.setRoom(4);
        for (int i = 0; i < 6; i++) {
            x.plan(4, 0);
        }
        Lectures.writeTimes(x, 24);
        due("panel(0, 0)", x.panel(0, 0), 0b1111);
        due("panel(5, 0)", x.panel(5, 0), 0b1111 << 20);
        for (int panel = 0; panel < 6; panel++) {
            due("write()", x.write(), panel);
            for (int step = 0; step < 24; step++) {
                due("step(" + step + ", 3)", x.step(step, 3), step / 4 <= panel ? NONE : step / 4);
            }
            due("panel(" + panel + ", 0)", x.panel(panel, 0), 1 << 24 + panel);
            due("panel(" + panel + ", 4)", x.panel(panel, 4), panel == 0 ? 1 : 2);
        }
        due("count(4)", x.count(4), 11);
        due("count(12)", x.count(12), 24);
    }

    private static void promise05NoWipeOfTheOneInUse() {
        Check.part("5: a panel that stays in use is not wiped");
        PulledPanels x = Lectures.small(3);
        Lectures.writeTimes(x, 2);
        due("panel(0, 0)", x.panel(0, 0), 3);
        x.wipe(0);
        due("emptied, in use", x.write(), 0);
        due("count(4)", x.count(4), 1);
        due("panel(0, 0)", x.panel(0, 0), 4);
    }

    private static void promise05InUseAndBehind() {
        Check.part("5: if the panel in use is behind, its column is pulled");
        PulledPanels x = Lectures.small(1);
        x.pull(0);
        due("write()", x.write(), 0);
        due("panel(0, 2)", x.panel(0, 2), 1);
        due("panel(1, 2)", x.panel(1, 2), 0);
        due("count(3)", x.count(3), 2);
        x = Lectures.full(2);
        x.write();
        due("a new one behind", x.write(), 1);
        due("panel(1, 2)", x.panel(1, 2), 1);
        due("count(3)", x.count(3), 1);
        x = Lectures.full(6);
        for (int step = 0; step < 6; step++) {
            x.pull(step / 2);
            int pulls = x.count(3);
            boolean front = x.panel(step, 2) == 1;
            x.write();
            due("pulls for " + step, x.count(3) - pulls, front ? 0 : 1);
            due("panel(" + step + ", 2)", x.panel(step, 2), 1);
        }
    }

    private static void promise05InUseAndInFront() {
        Check.part("5: if the panel in use is in front, nothing is pulled");
        PulledPanels x = Lectures.full(2);
        x.write();
        due("stays in use", x.count(3), 0);
        x.pull(0);
        due("in front already", x.write(), 1);
        due("count(3)", x.count(3), 1);
        x = Lectures.fullWritten(2);
        x.plan(4, 0);
        due("the even one of the next column", x.write(), 2);
        due("count(3)", x.count(3), 1);
    }

    private static void promise05NeededInFront() {
        Check.part("5: one that is on a panel in front can be seen");
        PulledPanels x = Lectures.small(2);
        x.plan(1, 0b11);
        Lectures.writeTimes(x, 3);
        due("on the panel in use", x.count(3) + x.count(6) + x.count(7) + x.count(8), 0);
        x = Lectures.fullWritten(5);
        int pulls = x.count(3);
        x.plan(4, 0b01010);
        x.write();
        due("1 and 3 are in front, 5 is pulled", x.count(3), pulls + 1);
        due("counted", x.count(6) + x.count(7) + x.count(8), 0);
        due("step(1, 6)", x.step(1, 6), 1);
    }

    private static void promise05NeededBehind() {
        Check.part("5: one on a panel that is behind is brought to the front");
        PulledPanels x = Lectures.fullWritten(5);
        int pulls = x.count(3);
        x.plan(4, 0b00101);
        x.write();
        due("0 and 2 are pulled, and 5 itself", x.count(3), pulls + 3);
        due("panel(0, 2)", x.panel(0, 2), 1);
        due("panel(2, 2)", x.panel(2, 2), 1);
        due("counted", x.count(6) + x.count(7) + x.count(8), 0);
    }

    private static void promise05NeededFromTheLowestOn() {
        Check.part("5: the steps that it needs are looked at from the lowest on");
        PulledPanels x = Lectures.fullWritten(6);
        x.plan(4, 0b1100);
        int pulls = x.count(3);
        due("write()", x.write(), 0);
        due("2, then 3, and the panel in use", x.count(3), pulls + 3);
        due("panel(3, 2)", x.panel(3, 2), 1);
        x = Lectures.fullWritten(6);
        x.plan(4, 0b1100);
        x.pull(1);
        pulls = x.count(3);
        due("write()", x.write(), 0);
        due("2 is seen, 3 is pulled", x.count(3), pulls + 2);
        due("panel(3, 2)", x.panel(3, 2), 1);
    }

    private static void promise05NeededByStepNotByPanel() {
        Check.part("5: the lowest step may be on the higher panel");
        PulledPanels x = Lectures.full(8);
        x.plan(4, 0b10000100);
        x.pin(2, true);
        Lectures.writeTimes(x, 5);
        x.pin(2, false);
        x.pin(3, true);
        Lectures.writeTimes(x, 3);
        due("step(2, 3)", x.step(2, 3), 3);
        due("step(7, 3)", x.step(7, 3), 2);
        int pulls = x.count(3);
        due("write()", x.write(), 4);
        due("the panel in use, 3, then 2", x.count(3), pulls + 3);
        due("panel(2, 2)", x.panel(2, 2), 1);
    }

    private static void promise05HiddenInEachColumn() {
        Check.part("5: unless the panel in use is in this column; then it is hidden");
        for (int column = 0; column < 3; column++) {
            PulledPanels x = Lectures.fullWritten(2 * column + 1);
            x.plan(4, 1 << 2 * column);
            int pulls = x.count(3);
            due("write()", x.write(), 2 * column + 1);
            due("count(6)", x.count(6), 1);
            due("count(3)", x.count(3), pulls + 1);
            due("panel(" + (2 * column + 1) + ", 2)", x.panel(2 * column + 1, 2), 1);
            x = Lectures.fullWritten(6 + 2 * column);
            x.plan(4, 1 << 2 * column + 1);
            pulls = x.count(3);
            due("write()", x.write(), 2 * column);
            due("count(6)", x.count(6), 1);
            due("count(3)", x.count(3), pulls + 1);
        }
        PulledPanels x = Lectures.full(1);
        x.plan(1, 1);
        x.plan(1, 1);
        x.plan(1, 1);
        Lectures.writeTimes(x, 4);
        due("each time", x.count(6), 3);
        due("of one step", x.step(0, 6), 3);
    }

    private static void promise05HiddenThoughOnAPhoto() {
        Check.part("5: hidden, and not on a photo alone");
        PulledPanels x = Lectures.fullWritten(1);
        x.photo(0);
        x.plan(4, 1);
        x.write();
        due("count(6)", x.count(6), 1);
        due("count(7)", x.count(7), 0);
    }

    private static void promise05LostByTheWipeForIt() {
        Check.part("5: a step on the panel that is wiped for the one that needs it");
        PulledPanels x = Lectures.fullWritten(6);
        x.plan(4, 0b1);
        due("write()", x.write(), 0);
        due("lost", x.count(8), 1);
        due("hidden", x.count(6), 0);
        x = Lectures.full(7);
        x.write();
        x.photo(0);
        Lectures.writeTimes(x, 5);
        due("step(0, 3)", x.step(0, 3), 0);
        x.plan(4, 0b1);
        x.write();
        x.write();
        due("on a photo alone", x.count(7), 1);
        due("lost", x.count(8), 0);
    }

    private static void promise05PhotoAloneOrLost() {
        Check.part("5: one that is on no panel is on a photo, or lost");
        PulledPanels x = Lectures.small(3);
        Lectures.writeTimes(x, 2);
        x.photo(0);
        x.write();
        x.wipe(0);
        x.plan(1, 0b111);
        x.plan(1, 0b101);
        x.write();
        due("two on a photo", x.count(7), 2);
        due("one lost", x.count(8), 1);
        x.write();
        due("each time", x.count(7), 3);
        due("each time", x.count(8), 2);
        due("hidden", x.count(6), 0);
        due("pulls", x.count(3), 0);
    }

    private static void promise05AllOthersAreNeeded() {
        Check.part("5: the last step needs all others");
        PulledPanels x = Lectures.full(29);
        x.plan(4, (1 << 29) - 1);
        Lectures.writeTimes(x, 29);
        due("write()", x.write(), 5);
        due("lost", x.count(8), 24);
        due("hidden", x.count(6), 1);
        for (int step = 0; step < 29; step++) {
            due("step(" + step + ", 6)", x.step(step, 6), 1);
        }
        due("step(29, 6)", x.step(29, 6), 0);
    }

    private static void promise06ColumnsFrom0To2() {
        Check.part("6: the columns 0 to 2");
        PulledPanels x = new PulledPanels();
        for (int column = 0; column <= 2; column++) {
            due("pull(" + column + ")", x.pull(column), 2 * column + 1);
            due("count(3)", x.count(3), column + 1);
            for (int panel = 0; panel < 6; panel++) {
                int want = panel / 2 <= column ? panel % 2 : 1 - panel % 2;
                due("panel(" + panel + ", 2)", x.panel(panel, 2), want);
            }
        }
    }

    private static void promise06NoSuchColumn() {
        Check.part("6: UNKNOWN for another column");
        for (int column : new int[] {-1, 3, 4, 5, -3, Integer.MIN_VALUE, Integer.MAX_VALUE}) {
            Twins.refusedAlways("pull(" + column + ")", UNKNOWN, x -> x.pull(column));
        }
    }

    private static void promise06ToTheFrontAndBack() {
        Check.part("6: the panel that is behind comes to the front");
        PulledPanels x = Lectures.fullWritten(6);
        Lectures.pinned(x, ALL_PANELS);
        for (int column = 0; column <= 2; column++) {
            due("pull(" + column + ")", x.pull(column), 2 * column);
            due("pull(" + column + ")", x.pull(column), 2 * column + 1);
            due("pull(" + column + ")", x.pull(column), 2 * column);
        }
        due("count(3)", x.count(3), 3 + 9);
        due("the panel in use", x.count(2), 5);
        due("steps stay", x.panel(5, 0), 1 << 5);
    }

    private static void promise07PanelsFrom0To5() {
        Check.part("7: the panels 0 to 5, and how many are pinned then");
        PulledPanels x = new PulledPanels();
        for (int panel = 0; panel <= 5; panel++) {
            due("pin(" + panel + ", true)", x.pin(panel, true), panel + 1);
            due("panel(" + panel + ", 3)", x.panel(panel, 3), 1);
        }
        for (int panel = 0; panel <= 5; panel++) {
            due("pin(" + panel + ", false)", x.pin(panel, false), 5 - panel);
            due("panel(" + panel + ", 3)", x.panel(panel, 3), 0);
        }
        due("pin(5, true)", x.pin(5, true), 1);
    }

    private static void promise07NoSuchPanel() {
        Check.part("7: UNKNOWN for another panel");
        for (int panel : NO_PANELS) {
            Twins.refusedAlways("pin(" + panel + ", true)", UNKNOWN, x -> x.pin(panel, true));
            Twins.refusedAlways("pin(" + panel + ", false)", UNKNOWN, x -> x.pin(panel, false));
        }
        due("pin(6, true), all are", Lectures.pinned(new PulledPanels(), ALL_PANELS).pin(6, true), UNKNOWN);
        due("pin(-1, true), all are", Lectures.pinned(new PulledPanels(), ALL_PANELS).pin(-1, true), UNKNOWN);
    }

    private static void promise07SoAlready() {
        Check.part("7: NONE if it is so already");
        for (int panel = 0; panel <= 5; panel++) {
            int each = panel;
            Twins.refused("pin(" + panel + ", false)", NONE, PulledPanels::new, x -> x.pin(each, false));
            Twins.refused("pin(" + panel + ", true)", NONE,
                () -> Lectures.pinned(new PulledPanels(), ALL_PANELS), x -> x.pin(each, true));
            Twins.refused("pin(" + panel + ", busy)", NONE, Lectures::busy, x -> x.pin(each, each == 3));
        }
    }

    private static void promise08PanelsFrom0To5() {
        Check.part("8: the panels 0 to 5");
        for (int panel = 0; panel <= 5; panel++) {
            PulledPanels x = Lectures.fullWritten(panel + 1);
            int wipes = x.count(4);
            due("wipe(" + panel + ")", x.wipe(panel), 1);
            due("panel(" + panel + ", 0)", x.panel(panel, 0), 0);
            due("panel(" + panel + ", 4)", x.panel(panel, 4), panel == 0 ? 1 : 2);
            due("count(4)", x.count(4), wipes + 1);
            due("count(2)", x.count(2), panel);
            due("step(" + panel + ", 3)", x.step(panel, 3), NONE);
            if (panel > 0) {
                due("the others stay", x.step(panel - 1, 3), panel - 1);
            }
        }
    }

    private static void promise08NoSuchPanel() {
        Check.part("8: UNKNOWN for another panel");
        for (int panel : NO_PANELS) {
            Twins.refusedAlways("wipe(" + panel + ")", UNKNOWN, x -> x.wipe(panel));
        }
    }

    private static void promise08PinnedOrBehind() {
        Check.part("8: NOT_POSSIBLE if it is pinned, or behind");
        for (int panel = 0; panel <= 5; panel++) {
            int each = panel;
            Twins.refused("wipe(" + panel + ") pinned", NOT_POSSIBLE,
                () -> Lectures.pinned(Lectures.fullWritten(each + 1), 1 << each), x -> x.wipe(each));
            Twins.refused("wipe(" + panel + ") behind", NOT_POSSIBLE, () -> {
                PulledPanels x = Lectures.fullWritten(each + 1);
                x.pull(each / 2);
                return x;
            }, x -> x.wipe(each));
            PulledPanels x = Lectures.pinned(Lectures.fullWritten(panel + 1), ALL_PANELS & ~(1 << panel));
            due("wipe(" + panel + "), all others are pinned", x.wipe(panel), 1);
        }
    }

    private static void promise08Empty() {
        Check.part("8: NONE if it is empty");
        for (int panel = 0; panel <= 5; panel++) {
            int each = panel;
            Twins.refused("wipe(" + panel + ") of empty boards", NONE, () -> {
                PulledPanels x = new PulledPanels();
                if (each % 2 == 1) {
                    x.pull(each / 2);
                }
                return x;
            }, x -> x.wipe(each));
        }
        Twins.refused("wipe(0) again", NONE, () -> {
            PulledPanels x = Lectures.fullWritten(1);
            x.wipe(0);
            return x;
        }, x -> x.wipe(0));
        Twins.refused("wipe(4), all things", NONE, Lectures::busy, x -> x.wipe(4));
    }

    private static void promise08NotPossibleGoesAheadOfNone() {
        Check.part("8: NOT_POSSIBLE goes ahead of NONE");
        for (int panel = 0; panel <= 5; panel++) {
            int each = panel;
            due("wipe(" + panel + ") of new boards", new PulledPanels().wipe(panel), panel % 2 == 0 ? NONE : NOT_POSSIBLE);
            Twins.refused("wipe(" + panel + ") empty and pinned", NOT_POSSIBLE,
                () -> Lectures.pinned(new PulledPanels(), 1 << each), x -> x.wipe(each));
        }
        Twins.refused("wipe(1) empty and behind", NOT_POSSIBLE, PulledPanels::new, x -> x.wipe(1));
    }

    private static void promise08StepsThatWereOnIt() {
        Check.part("8: how many steps were on it");
        for (int steps = 1; steps <= 20; steps++) {
            PulledPanels x = Lectures.small(steps);
            x.setRoom(20);
            Lectures.writeTimes(x, steps);
            due("wipe(0)", x.wipe(0), steps);
            due("panel(0, 1)", x.panel(0, 1), 0);
            due("count(12)", x.count(12), steps);
            due("count(1)", x.count(1), steps);
        }
    }

    private static void promise09PanelsFrom0To5() {
        Check.part("9: the panels 0 to 5");
        PulledPanels x = Lectures.full(6);
        for (int panel = 0; panel <= 5; panel++) {
            x.write();
            due("photo(" + panel + ")", x.photo(panel), 1);
            due("photoOf(" + panel + ", 0)", x.photoOf(panel, 0), panel);
            due("photoOf(" + panel + ", 1)", x.photoOf(panel, 1), 1 << panel);
            due("panel(" + panel + ", 5)", x.panel(panel, 5), 0);
        }
        due("count(5)", x.count(5), 6);
        due("a pinned one", Lectures.pinned(x, ALL_PANELS).photo(5), 0);
    }

    private static void promise09NoSuchPanel() {
        Check.part("9: UNKNOWN for another panel");
        for (int panel : NO_PANELS) {
            Twins.refusedAlways("photo(" + panel + ")", UNKNOWN, x -> x.photo(panel));
        }
    }

    private static void promise09BehindOrEmpty() {
        Check.part("9: NOT_POSSIBLE if it is behind, or empty");
        for (int panel = 0; panel <= 5; panel++) {
            int each = panel;
            Twins.refused("photo(" + panel + ") behind", NOT_POSSIBLE, () -> {
                PulledPanels x = Lectures.fullWritten(each + 1);
                x.pull(each / 2);
                return x;
            }, x -> x.photo(each));
            Twins.refused("photo(" + panel + ") wiped", NOT_POSSIBLE, () -> {
                PulledPanels x = Lectures.fullWritten(each + 1);
                x.wipe(each);
                return x;
            }, x -> x.photo(each));
            due("photo(" + panel + ") of new boards", new PulledPanels().photo(panel), NOT_POSSIBLE);
        }
    }

    private static PulledPanels photos(int photos) {
        return Lectures.photographed(Lectures.fullWritten(1), 0, photos);
    }

    private static void promise09FortyPhotos() {
        Check.part("9: FULL if there are 40 photos");
        PulledPanels x = photos(0);
        for (int photo = 0; photo < 40; photo++) {
            due("photo(0)", x.photo(0), photo == 0 ? 1 : 0);
            due("count(5)", x.count(5), photo + 1);
        }
        due("the 41st", x.photo(0), FULL);
        Twins.refused("the 41st", FULL, () -> photos(40), y -> y.photo(0));
        x.undo();
        due("undone", x.count(5), 39);
        x.plan(4, 0);
        x.write();
        due("the 40th, of another panel", x.photo(1), 1);
        due("photoOf(39, 0)", x.photoOf(39, 0), 1);
        due("photoOf(39, 1)", x.photoOf(39, 1), 2);
        x.plan(4, 0);
        x.write();
        due("full, though of a step on no photo", x.photo(2), FULL);
        due("step(2, 4)", x.step(2, 4), 0);
    }

    private static void promise09NotPossibleGoesAheadOfFull() {
        Check.part("9: UNKNOWN and NOT_POSSIBLE go ahead of FULL");
        Twins.refused("photo(1) behind", NOT_POSSIBLE, () -> photos(40), x -> x.photo(1));
        Twins.refused("photo(2) empty", NOT_POSSIBLE, () -> photos(40), x -> x.photo(2));
        Twins.refused("photo(6)", UNKNOWN, () -> photos(40), x -> x.photo(6));
        Twins.refused("photo(-1)", UNKNOWN, () -> photos(40), x -> x.photo(-1));
        Twins.refused("photo(0) behind, with steps", NOT_POSSIBLE, () -> {
            PulledPanels x = photos(40);
            x.pull(0);
            return x;
        }, x -> x.photo(0));
    }

    private static void promise09ForTheFirstTime() {
        Check.part("9: how many steps are on a photo for the first time");
        PulledPanels x = Lectures.small(20);
        x.setRoom(20);
        for (int step = 0; step < 20; step += 2) {
            Lectures.writeTimes(x, 2);
            due("two more", x.photo(0), 2);
            due("none more", x.photo(0), 0);
            due("all steps on it", x.photoOf(step, 1), (1 << step + 2) - 1);
        }
        x = Lectures.writeTimes(Lectures.small(12), 12);
        due("all for the first time", x.photo(0), 12);
    }

    private static void promise10WrittenSteps() {
        Check.part("10: the first and the last written step");
        PulledPanels x = Lectures.writeTimes(Lectures.small(30), 30);
        for (int step = 0; step < 30; step++) {
            due("step(" + step + ", 5)", x.step(step, 5), 0);
            due("ask(" + step + ") behind or in front", x.ask(step), step == 0 || step == 12 ? 1 : 0);
            due("step(" + step + ", 5)", x.step(step, 5), 1);
            due("count(9)", x.count(9), step + 1);
        }
    }

    private static void promise10NoSuchStep() {
        Check.part("10: UNKNOWN for another step");
        for (int step : new int[] {-1, 9, 10, 29, 30, 31, 32, 64, Integer.MIN_VALUE, Integer.MAX_VALUE}) {
            Twins.refusedAlways("ask(" + step + ")", UNKNOWN, x -> x.ask(step));
        }
        Twins.refused("ask(0) without a plan", UNKNOWN, PulledPanels::new, x -> x.ask(0));
        Twins.refused("ask(1) of one", UNKNOWN, () -> Lectures.fullWritten(1), x -> x.ask(1));
        Twins.refused("ask(30) of 30", UNKNOWN, () -> Lectures.writeTimes(Lectures.small(30), 30), x -> x.ask(30));
    }

    private static void promise10NotWrittenYet() {
        Check.part("10: NOT_POSSIBLE if it is not written yet");
        Twins.refused("ask(0) planned", NOT_POSSIBLE, () -> Lectures.small(1), x -> x.ask(0));
        Twins.refused("ask(29) planned", NOT_POSSIBLE, () -> Lectures.writeTimes(Lectures.small(30), 29), x -> x.ask(29));
        Twins.refused("ask(6) all things", NOT_POSSIBLE, Lectures::busy, x -> x.ask(6));
        Twins.refused("ask(8) all things", NOT_POSSIBLE, Lectures::busy, x -> x.ask(8));
        due("ask(5) all things", Lectures.busy().ask(5), 3);
        due("ask(28)", Lectures.writeTimes(Lectures.small(30), 29).ask(28), 0);
        PulledPanels x = Lectures.writeTimes(Lectures.small(2), 2);
        x.undo();
        due("written, but undone", x.ask(1), NOT_POSSIBLE);
    }

    private static void promise10InFrontOrBehind() {
        Check.part("10: 0 from a panel that was in front, 1 from one that was behind");
        PulledPanels x = Lectures.fullWritten(6);
        for (int panel = 0; panel <= 5; panel++) {
            int pulls = x.count(3);
            due("ask(" + panel + ")", x.ask(panel), 1);
            due("count(3)", x.count(3), pulls + 1);
            due("panel(" + panel + ", 2)", x.panel(panel, 2), 1);
            due("again", x.ask(panel), 0);
            due("count(3)", x.count(3), pulls + 1);
        }
        due("count(9)", x.count(9), 12);
        due("count(10)", x.count(10), 0);
        due("count(11)", x.count(11), 0);
    }

    private static void promise10ColumnOfThePanelInUse() {
        Check.part("10: though it be that of the panel in use, which is pulled back");
        PulledPanels x = Lectures.small(12);
        x.plan(1, 0);
        x.plan(1, 0);
        Lectures.writeTimes(x, 13);
        due("ask(0)", x.ask(0), 1);
        due("panel(1, 2)", x.panel(1, 2), 0);
        due("count(2)", x.count(2), 1);
        int pulls = x.count(3);
        due("write()", x.write(), 1);
        due("panel(1, 2)", x.panel(1, 2), 1);
        due("count(3)", x.count(3), pulls + 1);
    }

    private static void promise10PhotoOrLost() {
        Check.part("10: otherwise 2 from a photo, otherwise 3 lost");
        PulledPanels x = Lectures.small(2);
        x.write();
        x.photo(0);
        x.write();
        x.wipe(0);
        due("ask(0)", x.ask(0), 2);
        due("ask(1)", x.ask(1), 3);
        due("ask(0)", x.ask(0), 2);
        due("count(9)", x.count(9), 0);
        due("count(10)", x.count(10), 2);
        due("count(11)", x.count(11), 1);
        due("step(0, 5)", x.step(0, 5), 2);
        due("step(1, 5)", x.step(1, 5), 1);
        due("no pull", x.count(3), 0);
        due("as needed", x.count(6) + x.count(7) + x.count(8), 0);
        x = photos(40);
        x.wipe(0);
        due("on 40 photos", x.ask(0), 2);
        due("counted once", x.count(10), 1);
    }

    private static void promise10PanelGoesAheadOfPhoto() {
        Check.part("10: answered from a panel, if it is on one");
        PulledPanels x = photos(1);
        due("in front", x.ask(0), 0);
        x.pull(0);
        due("behind", x.ask(0), 1);
        due("count(9)", x.count(9), 2);
        due("count(10)", x.count(10), 0);
    }
}
