/**
 * A lecture on blackboards whose panels are pulled down and up. The document of the project says
 * what each method promises; README.md says how to use the class.
 */
public final class PulledPanels {
    public static final int UNKNOWN = -1;
    public static final int BAD_VALUE = -2;
    public static final int FULL = -3;
    public static final int NOT_POSSIBLE = -4;
    public static final int NONE = -5;

    private static final int COLUMNS = 3;
    private static final int PANELS = 6;
    private static final int MOST_STEPS = 30;
    private static final int LEAST_LINES = 1;
    private static final int MOST_LINES = 4;
    private static final int LEAST_ROOM = 4;
    private static final int FIRST_ROOM = 12;
    private static final int MOST_ROOM = 20;
    private static final int MOST_PHOTOS = 40;
    private static final int MOST_CHARACTERS = 60;
    private static final int MOST_STATES = 4;

    private static final int FAULT_BASE = -100;
    private static final int NO_FAULT = -1;
    private static final int NOWHERE = -1;

    private final Lecture now;
    private final Lecture forecast;
    private final Lecture snapshot;
    private final History history;
    private final PlanText text;
    private boolean kept;

    /** All rows are made here, once, so that no later call makes an object. */
    public PulledPanels() {
        now = new Lecture();
        forecast = new Lecture();
        snapshot = new Lecture();
        history = new History();
        text = new PlanText();
        kept = false;
    }

    // ---- settings and the plan

    public int setRoom(int lines) {
        if (lines < LEAST_ROOM || lines > MOST_ROOM) {
            return BAD_VALUE;
        }
        if (now.fullestPanel() > lines) {
            return NOT_POSSIBLE;
        }
        int previous = now.boards.room;
        if (previous == lines) {
            return NONE;
        }
        history.record(now);
        now.boards.room = lines;
        return previous;
    }

    public int plan(int lines, int needs) {
        int number = now.steps.planned;
        if (lines < LEAST_LINES || lines > MOST_LINES || needs >>> number != 0) {
            return BAD_VALUE;
        }
        if (number >= MOST_STEPS) {
            return FULL;
        }
        history.record(now);
        now.steps.add(lines, needs);
        return number;
    }

    public int readPlan() {
        int fault = text.read(now.steps.planned);
        if (fault != NO_FAULT) {
            return FAULT_BASE - fault;
        }
        if (now.steps.planned + text.found > MOST_STEPS) {
            return FULL;
        }
        history.record(now);
        for (int index = 0; index < text.found; index++) {
            now.steps.add(text.lines.at(index), text.needs.at(index));
        }
        return now.steps.planned;
    }

    // ---- the boards

    public int write() {
        if (now.panelForNext() == NOWHERE) {
            return NOT_POSSIBLE;
        }
        history.record(now);
        return now.writeNext();
    }

    public int pull(int column) {
        if (column < 0 || column >= COLUMNS) {
            return UNKNOWN;
        }
        history.record(now);
        now.boards.turn(column);
        return now.boards.frontOf.at(column);
    }

    public int pin(int panel, boolean pinned) {
        if (!isPanel(panel)) {
            return UNKNOWN;
        }
        if (now.boards.isPinned(panel) == pinned) {
            return NONE;
        }
        history.record(now);
        now.boards.pins ^= 1 << panel;
        return Integer.bitCount(now.boards.pins);
    }

    public int wipe(int panel) {
        if (!isPanel(panel)) {
            return UNKNOWN;
        }
        if (now.boards.isPinned(panel) || !now.boards.isInFront(panel)) {
            return NOT_POSSIBLE;
        }
        int steps = now.boards.stepsOn.at(panel);
        if (steps == 0) {
            return NONE;
        }
        history.record(now);
        now.boards.clean(panel);
        return Integer.bitCount(steps);
    }

    public int photo(int panel) {
        if (!isPanel(panel)) {
            return UNKNOWN;
        }
        int steps = now.boards.stepsOn.at(panel);
        if (!now.boards.isInFront(panel) || steps == 0) {
            return NOT_POSSIBLE;
        }
        if (now.photos.taken >= MOST_PHOTOS) {
            return FULL;
        }
        history.record(now);
        int fresh = steps & ~now.photos.stepsTaken;
        now.photos.take(panel, steps);
        return Integer.bitCount(fresh);
    }

    public int ask(int step) {
        if (!now.steps.has(step)) {
            return UNKNOWN;
        }
        if (step >= now.steps.written) {
            return NOT_POSSIBLE;
        }
        history.record(now);
        return now.answer(step);
    }

    // ---- texts

    public int type(char character) {
        if (text.length >= MOST_CHARACTERS) {
            return FULL;
        }
        text.append(character);
        return text.length;
    }

    public int clearText() {
        int length = text.length;
        text.length = 0;
        return length;
    }

    // ---- history

    public int undo() {
        if (history.size == 0) {
            return NONE;
        }
        history.takeBack(now);
        return history.size;
    }

    public int keep() {
        snapshot.copyFrom(now);
        kept = true;
        return now.steps.written;
    }

    public int restore() {
        if (!kept) {
            return NONE;
        }
        history.record(now);
        now.copyFrom(snapshot);
        return now.steps.written;
    }

    // ---- what is told

    public int panel(int panel, int what) {
        if (!isPanel(panel)) {
            return UNKNOWN;
        }
        Boards boards = now.boards;
        switch (what) {
            case 0: return boards.stepsOn.at(panel);
            case 1: return now.linesOn(panel);
            case 2: return boards.isInFront(panel) ? 1 : 0;
            case 3: return boards.isPinned(panel) ? 1 : 0;
            case 4: return boards.wipesOf.at(panel);
            case 5: return boards.stepsOn.at(panel) & ~now.photos.stepsTaken;
            default: return BAD_VALUE;
        }
    }

    public int step(int step, int what) {
        if (!now.steps.has(step)) {
            return UNKNOWN;
        }
        switch (what) {
            case 0: return now.steps.linesOf.at(step);
            case 1: return now.steps.needsOf.at(step);
            case 2: return step < now.steps.written ? 1 : 0;
            case 3: return panelOrNone(step);
            case 4: return now.photos.show(step) ? 1 : 0;
            case 5: return now.tally.timesAsked.at(step);
            case 6: return now.steps.timesNeeded(step);
            default: return BAD_VALUE;
        }
    }

    public int photoOf(int photo, int what) {
        if (photo < 0 || what < 0 || what > 1) {
            return BAD_VALUE;
        }
        if (photo >= now.photos.taken) {
            return NONE;
        }
        return what == 0 ? now.photos.panelOf.at(photo) : now.photos.stepsOf.at(photo);
    }

    public int wouldBe(int what) {
        if (what < 0 || what > 5) {
            return BAD_VALUE;
        }
        forecast.copyFrom(now);
        forecast.writeAll();
        switch (what) {
            case 0: return forecast.boards.pulls - now.boards.pulls;
            case 1: return forecast.boards.allWipes() - now.boards.allWipes();
            case 2: return forecast.tally.hidden - now.tally.hidden;
            case 3: return forecast.tally.photoAlone - now.tally.photoAlone;
            case 4: return forecast.tally.lost - now.tally.lost;
            default: return forecast.steps.written - now.steps.written;
        }
    }

    public int photosNeeded() {
        forecast.copyFrom(now);
        return forecast.writeAll();
    }

    public int count(int what) {
        switch (what) {
            case 0: return now.steps.planned;
            case 1: return now.steps.written;
            case 2: return now.boards.inUse;
            case 3: return now.boards.pulls;
            case 4: return now.boards.allWipes();
            case 5: return now.photos.taken;
            case 6: return now.tally.hidden;
            case 7: return now.tally.photoAlone;
            case 8: return now.tally.lost;
            case 9: return now.tally.answeredFromPanels;
            case 10: return now.tally.answeredFromPhotos;
            case 11: return now.tally.unanswered;
            case 12: return now.stepsGone();
            case 13: return now.boards.room;
            case 14: return history.size;
            case 15: return text.length;
            default: return BAD_VALUE;
        }
    }

    private int panelOrNone(int step) {
        int panel = now.boards.panelWith(step);
        return panel == NOWHERE ? NONE : panel;
    }

    private static boolean isPanel(int panel) {
        return panel >= 0 && panel < PANELS;
    }

    private static int columnOf(int panel) {
        return panel >> 1;
    }

    private static int bitOf(int step) {
        return step >= 0 && step < MOST_STEPS ? 1 << step : 0;
    }

    /** Numbers behind an index that is looked at, so that no index can fail anywhere else. */
    private static final class Row {
        private final int[] cells;

        Row(int length) {
            cells = new int[Math.max(length, 0)];
        }

        int at(int index) {
            return index >= 0 && index < cells.length ? cells[index] : 0;
        }

        void put(int index, int value) {
            if (index >= 0 && index < cells.length) {
                cells[index] = value;
            }
        }

        void raise(int index) {
            put(index, at(index) + 1);
        }

        void copyFrom(Row other) {
            System.arraycopy(other.cells, 0, cells, 0, Math.min(cells.length, other.cells.length));
        }
    }

    /** The plan. Steps are written in their order, so a number tells which ones are written. */
    private static final class Steps {
        final Row linesOf = new Row(MOST_STEPS);
        final Row needsOf = new Row(MOST_STEPS);
        int planned;
        int written;

        boolean has(int step) {
            return step >= 0 && step < planned;
        }

        void add(int lines, int needs) {
            if (planned < MOST_STEPS) {
                linesOf.put(planned, lines);
                needsOf.put(planned, needs);
                planned++;
            }
        }

        int timesNeeded(int step) {
            int times = 0;
            for (int later = step + 1; later < written; later++) {
                if ((needsOf.at(later) & bitOf(step)) != 0) {
                    times++;
                }
            }
            return times;
        }

        void copyFrom(Steps other) {
            linesOf.copyFrom(other.linesOf);
            needsOf.copyFrom(other.needsOf);
            planned = other.planned;
            written = other.written;
        }
    }

    /** The columns with their panels, and what is on them. */
    private static final class Boards {
        final Row stepsOn = new Row(PANELS);
        final Row wipesOf = new Row(PANELS);
        final Row frontOf = new Row(COLUMNS);
        int pins;
        int inUse;
        int room;
        int pulls;

        Boards() {
            room = FIRST_ROOM;
            for (int column = 0; column < COLUMNS; column++) {
                frontOf.put(column, 2 * column);
            }
        }

        boolean isInFront(int panel) {
            return frontOf.at(columnOf(panel)) == panel;
        }

        boolean isPinned(int panel) {
            return (pins >> panel & 1) == 1;
        }

        void turn(int column) {
            // the two panels of a column differ in their last bit alone
            frontOf.put(column, frontOf.at(column) ^ 1);
            pulls++;
        }

        void bringToFront(int panel) {
            if (!isInFront(panel)) {
                turn(columnOf(panel));
            }
        }

        void clean(int panel) {
            stepsOn.put(panel, 0);
            wipesOf.raise(panel);
        }

        void bear(int panel, int step) {
            stepsOn.put(panel, stepsOn.at(panel) | bitOf(step));
        }

        int panelWith(int step) {
            for (int panel = 0; panel < PANELS; panel++) {
                if ((stepsOn.at(panel) & bitOf(step)) != 0) {
                    return panel;
                }
            }
            return NOWHERE;
        }

        /** The panel that comes in use when the one in use has no more room. */
        int nextToUse() {
            for (int ahead = 1; ahead < PANELS; ahead++) {
                int panel = (inUse + ahead) % PANELS;
                if (!isPinned(panel)) {
                    return panel;
                }
            }
            return NOWHERE;
        }

        int allWipes() {
            int wipes = 0;
            for (int panel = 0; panel < PANELS; panel++) {
                wipes += wipesOf.at(panel);
            }
            return wipes;
        }

        int allSteps() {
            int steps = 0;
            for (int panel = 0; panel < PANELS; panel++) {
                steps |= stepsOn.at(panel);
            }
            return steps;
        }

        void copyFrom(Boards other) {
            stepsOn.copyFrom(other.stepsOn);
            wipesOf.copyFrom(other.wipesOf);
            frontOf.copyFrom(other.frontOf);
            pins = other.pins;
            inUse = other.inUse;
            room = other.room;
            pulls = other.pulls;
        }
    }

    private static final class Photos {
        final Row panelOf = new Row(MOST_PHOTOS);
        final Row stepsOf = new Row(MOST_PHOTOS);
        int taken;
        /** The steps of all photos, kept beside them so that a forecast need not go through them. */
        int stepsTaken;

        boolean show(int step) {
            return (stepsTaken & bitOf(step)) != 0;
        }

        void take(int panel, int steps) {
            if (taken < MOST_PHOTOS) {
                panelOf.put(taken, panel);
                stepsOf.put(taken, steps);
                taken++;
                stepsTaken |= steps;
            }
        }

        void copyFrom(Photos other) {
            panelOf.copyFrom(other.panelOf);
            stepsOf.copyFrom(other.stepsOf);
            taken = other.taken;
            stepsTaken = other.stepsTaken;
        }
    }

    /** What was counted of needed steps and of questions. */
    private static final class Tally {
        final Row timesAsked = new Row(MOST_STEPS);
        int hidden;
        int photoAlone;
        int lost;
        int answeredFromPanels;
        int answeredFromPhotos;
        int unanswered;

        void copyFrom(Tally other) {
            timesAsked.copyFrom(other.timesAsked);
            hidden = other.hidden;
            photoAlone = other.photoAlone;
            lost = other.lost;
            answeredFromPanels = other.answeredFromPanels;
            answeredFromPhotos = other.answeredFromPhotos;
            unanswered = other.unanswered;
        }
    }

    /** A state: everything but the text, the history and the snapshot. */
    private static final class Lecture {
        final Steps steps = new Steps();
        final Boards boards = new Boards();
        final Photos photos = new Photos();
        final Tally tally = new Tally();

        int linesOn(int panel) {
            int onPanel = boards.stepsOn.at(panel);
            int lines = 0;
            for (int step = 0; step < steps.written; step++) {
                if ((onPanel & bitOf(step)) != 0) {
                    lines += steps.linesOf.at(step);
                }
            }
            return lines;
        }

        int fullestPanel() {
            int most = 0;
            for (int panel = 0; panel < PANELS; panel++) {
                most = Math.max(most, linesOn(panel));
            }
            return most;
        }

        /** The panel on which the next step comes, NOWHERE if it cannot be written. */
        int panelForNext() {
            if (steps.written >= steps.planned) {
                return NOWHERE;
            }
            int lines = steps.linesOf.at(steps.written);
            if (linesOn(boards.inUse) + lines <= boards.room) {
                return boards.inUse;
            }
            return boards.nextToUse();
        }

        int writeNext() {
            int panel = panelForNext();
            if (panel == NOWHERE) {
                return NOWHERE;
            }
            if (panel != boards.inUse) {
                boards.clean(panel);
                boards.inUse = panel;
            }
            boards.bringToFront(panel);
            int step = steps.written;
            boards.bear(panel, step);
            steps.written++;
            lookAtNeeds(steps.needsOf.at(step));
            return panel;
        }

        private void lookAtNeeds(int needs) {
            for (int step = 0; step < MOST_STEPS; step++) {
                if ((needs & bitOf(step)) != 0) {
                    lookAt(step);
                }
            }
        }

        private void lookAt(int step) {
            int panel = boards.panelWith(step);
            if (panel == NOWHERE) {
                if (photos.show(step)) {
                    tally.photoAlone++;
                } else {
                    tally.lost++;
                }
            } else if (!boards.isInFront(panel)) {
                if (columnOf(panel) == columnOf(boards.inUse)) {
                    tally.hidden++;
                } else {
                    boards.turn(columnOf(panel));
                }
            }
        }

        /** Writes while it can, and returns how many wipes took a step that is on no photo. */
        int writeAll() {
            int losses = 0;
            for (int turns = 0; turns < MOST_STEPS; turns++) {
                int panel = panelForNext();
                if (panel == NOWHERE) {
                    break;
                }
                // no step comes back to a panel, so a wipe's photo spares no later one
                if (panel != boards.inUse && (boards.stepsOn.at(panel) & ~photos.stepsTaken) != 0) {
                    losses++;
                }
                writeNext();
            }
            return losses;
        }

        /** Returns 0 to 3, as a question is answered. */
        int answer(int step) {
            tally.timesAsked.raise(step);
            int panel = boards.panelWith(step);
            if (panel != NOWHERE) {
                boolean inFront = boards.isInFront(panel);
                boards.bringToFront(panel);
                tally.answeredFromPanels++;
                return inFront ? 0 : 1;
            }
            if (photos.show(step)) {
                tally.answeredFromPhotos++;
                return 2;
            }
            tally.unanswered++;
            return 3;
        }

        int stepsGone() {
            return steps.written - Integer.bitCount(boards.allSteps() | photos.stepsTaken);
        }

        void copyFrom(Lecture other) {
            steps.copyFrom(other.steps);
            boards.copyFrom(other.boards);
            photos.copyFrom(other.photos);
            tally.copyFrom(other.tally);
        }
    }

    /** The latest states, going round in the same places. */
    private static final class History {
        private final Lecture[] states = new Lecture[MOST_STATES];
        private int next;
        int size;

        History() {
            for (int index = 0; index < states.length; index++) {
                states[index] = new Lecture();
            }
        }

        void record(Lecture state) {
            Lecture place = stateAt(next);
            if (place != null) {
                place.copyFrom(state);
                next = (next + 1) % MOST_STATES;
                size = Math.min(size + 1, MOST_STATES);
            }
        }

        void takeBack(Lecture target) {
            int latest = (next + MOST_STATES - 1) % MOST_STATES;
            Lecture place = stateAt(latest);
            if (place != null && size > 0) {
                target.copyFrom(place);
                next = latest;
                size--;
            }
        }

        private Lecture stateAt(int index) {
            return index >= 0 && index < states.length ? states[index] : null;
        }
    }

    /** The text, and the steps that were found when it was last read as a plan. */
    private static final class PlanText {
        private static final int LINES_DUE = 0;
        private static final int LINES_READ = 1;
        private static final int NUMBER_DUE = 2;
        private static final int DIGIT_READ = 3;
        private static final int NUMBER_READ = 4;

        final Row lines = new Row(MOST_STEPS);
        final Row needs = new Row(MOST_STEPS);
        int found;
        int length;
        private final char[] characters = new char[MOST_CHARACTERS];
        private int place;
        private int first;
        private int number;

        void append(char character) {
            if (length >= 0 && length < characters.length) {
                characters[length] = character;
                length++;
            }
        }

        /** Reads the text as steps from the number firstStep on; returns its fault or NO_FAULT. */
        int read(int firstStep) {
            first = firstStep;
            found = 0;
            place = LINES_DUE;
            for (int index = 0; index < length && index < characters.length; index++) {
                if (!takes(characters[index])) {
                    return index;
                }
            }
            if (place == LINES_DUE || place == NUMBER_DUE) {
                return length;
            }
            endNumber();
            return NO_FAULT;
        }

        private boolean takes(char character) {
            if (place == LINES_DUE) {
                return takesLines(character);
            }
            if (place == NUMBER_DUE) {
                return takesFirstDigit(character);
            }
            if (place == DIGIT_READ && isDigit(character)) {
                return takesSecondDigit(character);
            }
            return takesMark(character);
        }

        private boolean takesLines(char character) {
            int digit = character - '0';
            if (digit < LEAST_LINES || digit > MOST_LINES) {
                return false;
            }
            lines.put(found, digit);
            needs.put(found, 0);
            found++;
            place = LINES_READ;
            return true;
        }

        private boolean takesFirstDigit(char character) {
            int digit = character - '0';
            if (!isDigit(character) || digit >= currentStep()) {
                return false;
            }
            number = digit;
            place = digit == 0 ? NUMBER_READ : DIGIT_READ;
            return true;
        }

        private boolean takesSecondDigit(char character) {
            int whole = 10 * number + (character - '0');
            if (whole >= currentStep()) {
                return false;
            }
            number = whole;
            place = NUMBER_READ;
            return true;
        }

        private boolean takesMark(char character) {
            char needMark = place == LINES_READ ? '<' : ',';
            if (character != ';' && character != needMark) {
                return false;
            }
            endNumber();
            place = character == ';' ? LINES_DUE : NUMBER_DUE;
            return true;
        }

        /** A number is whole only when the character behind it is known. */
        private void endNumber() {
            if (place == DIGIT_READ || place == NUMBER_READ) {
                int index = found - 1;
                // a step from 30 on has no bit, but with such a one the text is refused as FULL
                needs.put(index, needs.at(index) | bitOf(number));
            }
        }

        private int currentStep() {
            return first + found - 1;
        }

        private static boolean isDigit(char character) {
            return character >= '0' && character <= '9';
        }
    }
}
