import java.util.ArrayDeque;
import java.util.ArrayList;
import java.util.Deque;
import java.util.List;
import java.util.TreeSet;

/** The document once more, in lists and sets: slow, and written apart from the class. */
final class PlainModel {
    static final class Step {
        int lines;
        TreeSet<Integer> needs = new TreeSet<>();
        boolean written;
        Integer panel;
        boolean onPhoto;
        int asked;
        int needed;

        Step copy() {
            Step c = new Step();
            c.lines = lines;
            c.needs = new TreeSet<>(needs);
            c.written = written;
            c.panel = panel;
            c.onPhoto = onPhoto;
            c.asked = asked;
            c.needed = needed;
            return c;
        }
    }

    static final class State {
        List<Step> steps = new ArrayList<>();
        List<int[]> photos = new ArrayList<>();
        boolean[] oddInFront = new boolean[3];
        boolean[] pinned = new boolean[6];
        int[] wiped = new int[6];
        int room = 12;
        int use;
        int pulls;
        int wipes;
        int[] asNeeded = new int[3];
        int[] asked = new int[3];

        State copy() {
            State c = new State();
            for (Step s : steps) {
                c.steps.add(s.copy());
            }
            for (int[] p : photos) {
                c.photos.add(p.clone());
            }
            c.oddInFront = oddInFront.clone();
            c.pinned = pinned.clone();
            c.wiped = wiped.clone();
            c.room = room;
            c.use = use;
            c.pulls = pulls;
            c.wipes = wipes;
            c.asNeeded = asNeeded.clone();
            c.asked = asked.clone();
            return c;
        }

        boolean front(int panel) {
            return oddInFront[panel / 2] == (panel % 2 == 1);
        }

        void pullColumn(int column) {
            oddInFront[column] = !oddInFront[column];
            pulls++;
        }

        List<Step> on(int panel) {
            List<Step> found = new ArrayList<>();
            for (Step s : steps) {
                if (s.panel != null && s.panel == panel) {
                    found.add(s);
                }
            }
            return found;
        }

        int lines(int panel) {
            return on(panel).stream().mapToInt(s -> s.lines).sum();
        }

        int bits(List<Step> some) {
            int bits = 0;
            for (Step s : some) {
                bits |= 1 << steps.indexOf(s);
            }
            return bits;
        }

        void wipePanel(int panel) {
            for (Step s : on(panel)) {
                s.panel = null;
            }
            wiped[panel]++;
            wipes++;
        }

        int written() {
            return (int) steps.stream().filter(s -> s.written).count();
        }

        /** Writes the next step; photographs what would be lost, if asked to, and counts in taken[0]. */
        int writeStep(int[] taken) {
            Step next = steps.stream().filter(s -> !s.written).findFirst().orElse(null);
            if (next == null) {
                return -4;
            }
            if (room - lines(use) < next.lines) {
                int candidate = use;
                do {
                    candidate = candidate == 5 ? 0 : candidate + 1;
                } while (candidate != use && pinned[candidate]);
                if (candidate == use) {
                    return -4;
                }
                if (taken != null && on(candidate).stream().anyMatch(s -> !s.onPhoto)) {
                    taken[0]++;
                    on(candidate).forEach(s -> s.onPhoto = true);
                }
                wipePanel(candidate);
                use = candidate;
            }
            if (!front(use)) {
                pullColumn(use / 2);
            }
            next.written = true;
            next.panel = use;
            for (int number : next.needs) {
                Step needed = steps.get(number);
                needed.needed++;
                if (needed.panel == null) {
                    asNeeded[needed.onPhoto ? 1 : 2]++;
                } else if (!front(needed.panel)) {
                    if (needed.panel / 2 == use / 2) {
                        asNeeded[0]++;
                    } else {
                        pullColumn(needed.panel / 2);
                    }
                }
            }
            return use;
        }
    }

    State s = new State();
    State snapshot;
    Deque<State> history = new ArrayDeque<>();
    String text = "";

    private void record() {
        history.addLast(s.copy());
        if (history.size() > 4) {
            history.removeFirst();
        }
    }

    int setRoom(int lines) {
        if (lines < 4 || lines > 20) {
            return -2;
        }
        for (int p = 0; p < 6; p++) {
            if (s.lines(p) > lines) {
                return -4;
            }
        }
        if (lines == s.room) {
            return -5;
        }
        record();
        int old = s.room;
        s.room = lines;
        return old;
    }

    int plan(int lines, int needs) {
        int number = s.steps.size();
        if (lines < 1 || lines > 4 || (needs & 0xffffffffL) >= (1L << number)) {
            return -2;
        }
        if (number == 30) {
            return -3;
        }
        record();
        Step step = new Step();
        step.lines = lines;
        for (int i = 0; i < number; i++) {
            if ((needs & (1 << i)) != 0) {
                step.needs.add(i);
            }
        }
        s.steps.add(step);
        return number;
    }

    /** Whether this is the whole text of a plan for steps from the number first on. */
    static boolean isPlan(String text, int first) {
        String[] parts = text.split(";", -1);
        for (int i = 0; i < parts.length; i++) {
            if (!parts[i].matches("[1-4](<(0|[1-9][0-9]?)(,(0|[1-9][0-9]?))*)?")) {
                return false;
            }
            if (parts[i].length() > 1) {
                for (String number : parts[i].substring(2).split(",")) {
                    if (Integer.parseInt(number) >= first + i) {
                        return false;
                    }
                }
            }
        }
        return true;
    }

    /** Whether each character of this stands at a place where it is allowed. */
    static boolean isAllowed(String start, int first) {
        if (start.isEmpty() || isPlan(start, first) || isPlan(start + "1", first) || isPlan(start + "0", first)) {
            return true;
        }
        // behind the "<" of the step 0 nothing is allowed, but the "<" is
        String ahead = start.substring(0, start.length() - 1);
        return start.endsWith("<") && isPlan(ahead, first) && !ahead.substring(ahead.lastIndexOf(';') + 1).contains("<");
    }

    static int fault(String text, int first) {
        for (int i = 0; i < text.length(); i++) {
            if (!isAllowed(text.substring(0, i + 1), first)) {
                return i;
            }
        }
        return isPlan(text, first) ? -1 : text.length();
    }

    int readPlan() {
        int first = s.steps.size();
        int fault = fault(text, first);
        if (fault >= 0) {
            return -100 - fault;
        }
        String[] parts = text.split(";");
        if (first + parts.length > 30) {
            return -3;
        }
        record();
        for (String part : parts) {
            Step step = new Step();
            step.lines = part.charAt(0) - '0';
            if (part.length() > 1) {
                for (String number : part.substring(2).split(",")) {
                    step.needs.add(Integer.parseInt(number));
                }
            }
            s.steps.add(step);
        }
        return s.steps.size();
    }

    int write() {
        if (s.copy().writeStep(null) < 0) {
            return -4;
        }
        record();
        return s.writeStep(null);
    }

    int pull(int column) {
        if (column < 0 || column > 2) {
            return -1;
        }
        record();
        s.pullColumn(column);
        return 2 * column + (s.oddInFront[column] ? 1 : 0);
    }

    int pin(int panel, boolean pinned) {
        if (panel < 0 || panel > 5) {
            return -1;
        }
        if (s.pinned[panel] == pinned) {
            return -5;
        }
        record();
        s.pinned[panel] = pinned;
        int pins = 0;
        for (boolean p : s.pinned) {
            pins += p ? 1 : 0;
        }
        return pins;
    }

    int wipe(int panel) {
        if (panel < 0 || panel > 5) {
            return -1;
        }
        if (s.pinned[panel] || !s.front(panel)) {
            return -4;
        }
        int steps = s.on(panel).size();
        if (steps == 0) {
            return -5;
        }
        record();
        s.wipePanel(panel);
        return steps;
    }

    int photo(int panel) {
        if (panel < 0 || panel > 5) {
            return -1;
        }
        if (!s.front(panel) || s.on(panel).isEmpty()) {
            return -4;
        }
        if (s.photos.size() == 40) {
            return -3;
        }
        record();
        s.photos.add(new int[] {panel, s.bits(s.on(panel))});
        int fresh = 0;
        for (Step step : s.on(panel)) {
            fresh += step.onPhoto ? 0 : 1;
            step.onPhoto = true;
        }
        return fresh;
    }

    int ask(int step) {
        if (step < 0 || step >= s.steps.size()) {
            return -1;
        }
        if (!s.steps.get(step).written) {
            return -4;
        }
        record();
        Step asked = s.steps.get(step);
        asked.asked++;
        if (asked.panel == null) {
            s.asked[asked.onPhoto ? 1 : 2]++;
            return asked.onPhoto ? 2 : 3;
        }
        s.asked[0]++;
        if (s.front(asked.panel)) {
            return 0;
        }
        s.pullColumn(asked.panel / 2);
        return 1;
    }

    int type(char character) {
        if (text.length() == 60) {
            return -3;
        }
        text += character;
        return text.length();
    }

    int clearText() {
        int length = text.length();
        text = "";
        return length;
    }

    int undo() {
        if (history.isEmpty()) {
            return -5;
        }
        s = history.removeLast();
        return history.size();
    }

    int keep() {
        snapshot = s.copy();
        return s.written();
    }

    int restore() {
        if (snapshot == null) {
            return -5;
        }
        record();
        s = snapshot.copy();
        return s.written();
    }

    int panel(int panel, int what) {
        if (panel < 0 || panel > 5) {
            return -1;
        }
        List<Step> on = s.on(panel);
        return switch (what) {
            case 0 -> s.bits(on);
            case 1 -> s.lines(panel);
            case 2 -> s.front(panel) ? 1 : 0;
            case 3 -> s.pinned[panel] ? 1 : 0;
            case 4 -> s.wiped[panel];
            case 5 -> {
                on.removeIf(step -> step.onPhoto);
                yield s.bits(on);
            }
            default -> -2;
        };
    }

    int step(int step, int what) {
        if (step < 0 || step >= s.steps.size()) {
            return -1;
        }
        Step it = s.steps.get(step);
        return switch (what) {
            case 0 -> it.lines;
            case 1 -> it.needs.stream().mapToInt(n -> 1 << n).sum();
            case 2 -> it.written ? 1 : 0;
            case 3 -> it.panel == null ? -5 : it.panel;
            case 4 -> it.onPhoto ? 1 : 0;
            case 5 -> it.asked;
            case 6 -> it.needed;
            default -> -2;
        };
    }

    int photoOf(int photo, int what) {
        if (photo < 0 || what < 0 || what > 1) {
            return -2;
        }
        return photo < s.photos.size() ? s.photos.get(photo)[what] : -5;
    }

    int wouldBe(int what) {
        State later = s.copy();
        while (later.writeStep(null) >= 0) {
            continue;
        }
        return switch (what) {
            case 0 -> later.pulls - s.pulls;
            case 1 -> later.wipes - s.wipes;
            case 2, 3, 4 -> later.asNeeded[what - 2] - s.asNeeded[what - 2];
            case 5 -> later.written() - s.written();
            default -> -2;
        };
    }

    int photosNeeded() {
        State later = s.copy();
        int[] taken = new int[1];
        while (later.writeStep(taken) >= 0) {
            continue;
        }
        return taken[0];
    }

    int count(int what) {
        return switch (what) {
            case 0 -> s.steps.size();
            case 1 -> s.written();
            case 2 -> s.use;
            case 3 -> s.pulls;
            case 4 -> s.wipes;
            case 5 -> s.photos.size();
            case 6, 7, 8 -> s.asNeeded[what - 6];
            case 9, 10, 11 -> s.asked[what - 9];
            case 12 -> (int) s.steps.stream().filter(t -> t.written && t.panel == null && !t.onPhoto).count();
            case 13 -> s.room;
            case 14 -> history.size();
            case 15 -> text.length();
            default -> -2;
        };
    }
}
