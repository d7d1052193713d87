/** Objects for the tests, made by calls of the public face alone. */
final class Lectures {
    private Lectures() {
    }

    /** Plans steps of so many lines, without needs. */
    static PulledPanels planned(int... lines) {
        PulledPanels x = new PulledPanels();
        for (int each : lines) {
            x.plan(each, 0);
        }
        return x;
    }

    /** Panels with room for 4 lines, and so many steps of 4 lines: each step fills a panel. */
    static PulledPanels full(int steps) {
        PulledPanels x = new PulledPanels();
        x.setRoom(4);
        for (int i = 0; i < steps; i++) {
            x.plan(4, 0);
        }
        return x;
    }

    /** Full panels of so many steps, all of them written. */
    static PulledPanels fullWritten(int steps) {
        return writeTimes(full(steps), steps);
    }

    /** So many steps of one line each, planned alone. */
    static PulledPanels small(int steps) {
        PulledPanels x = new PulledPanels();
        for (int i = 0; i < steps; i++) {
            x.plan(1, 0);
        }
        return x;
    }

    static PulledPanels writeTimes(PulledPanels x, int times) {
        for (int i = 0; i < times; i++) {
            x.write();
        }
        return x;
    }

    static PulledPanels type(PulledPanels x, String text) {
        for (char c : text.toCharArray()) {
            x.type(c);
        }
        return x;
    }

    static int read(PulledPanels x, String text) {
        x.clearText();
        return type(x, text).readPlan();
    }

    static PulledPanels photographed(PulledPanels x, int panel, int times) {
        for (int i = 0; i < times; i++) {
            x.photo(panel);
        }
        return x;
    }

    /** Pins the panels of the bits, and takes the pin from all others. */
    static PulledPanels pinned(PulledPanels x, int panels) {
        for (int panel = 0; panel < 6; panel++) {
            x.pin(panel, (panels >> panel & 1) == 1);
        }
        return x;
    }

    static PulledPanels undone(PulledPanels x) {
        for (int i = 0; i < 4; i++) {
            x.undo();
        }
        return x;
    }

    /** Something of everything: pins, photos, wipes, questions, a snapshot, a text, a whole history. */
    static PulledPanels busy() {
        PulledPanels x = new PulledPanels();
        x.setRoom(5);
        x.plan(4, 0);
        x.plan(4, 0b1);
        x.plan(1, 0b1);
        x.plan(4, 0b11);
        x.plan(4, 0);
        x.plan(4, 0b1);
        x.plan(4, 0b10111);
        x.plan(3, 0b1);
        x.plan(2, 0b11);
        x.write();
        x.photo(0);
        writeTimes(x, 2);
        x.keep();
        writeTimes(x, 3);
        type(x, "2<0;3x");
        x.pin(3, true);
        x.wipe(4);
        x.ask(1);
        x.photo(1);
        return x;
    }

    /** As much, but with an empty history. */
    static PulledPanels quiet() {
        return undone(busy());
    }
}
