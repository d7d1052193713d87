import java.util.Random;

/** Runs with fixed seeds, and all short texts, against the plain model; no object has more than 512 calls. */
public final class ModelTest {
    private static final int RUNS = 12000;
    private static final int CALLS = 512;
    /** The calls of the dearest change: a text that is emptied, typed and read. */
    private static final int DEAREST = 72;
    private static final String SIGNS = "0123456789;;;<<,,x";
    private static final char[] SHORT = {'0', '1', '2', '9', ';', '<', ','};

    private final Random random;
    private final PulledPanels real = new PulledPanels();
    private final PlainModel model = new PlainModel();
    private final boolean small;
    private final boolean manyPhotos;
    private int calls = 0;

    private ModelTest(long seed) {
        random = new Random(seed);
        small = seed % 3 != 0;
        manyPhotos = seed % 5 == 0;
    }

    public static void main(String[] args) {
        for (long seed = 0; seed < RUNS; seed++) {
            Check.part("seed " + seed);
            new ModelTest(seed).run();
        }
        Check.part("short texts");
        for (int first : new int[] {0, 1, 2, 10, 12, 13, 20, 21, 22, 29, 30}) {
            shortTexts(first, "", 4);
        }
        Check.end();
    }

    /** Changes, with questions among them, and questions alone behind the last change. */
    private void run() {
        int changing = any(CALLS - DEAREST);
        boolean alone = any(2) == 0;
        while (calls < changing) {
            change();
            if (!alone && any(4) == 0) {
                compareOne();
            }
        }
        while (calls < CALLS) {
            compareOne();
        }
    }

    private void due(String what, int got, int want) {
        calls++;
        Check.due(what, got, want);
    }

    private static void shortTexts(int first, String text, int more) {
        PulledPanels x = new PulledPanels();
        PlainModel model = new PlainModel();
        for (int i = 0; i < first; i++) {
            x.plan(1, 0);
            model.plan(1, 0);
        }
        // a start that holds a need gets the digits of a number to its place sooner
        for (String start : new String[] {"", "1;4<"}) {
            x.clearText();
            model.clearText();
            for (char c : (start + text).toCharArray()) {
                x.type(c);
                model.type(c);
            }
            Check.due("readPlan() of " + start + text + " at " + first, x.readPlan(), model.readPlan());
            Check.due("count(0)", x.count(0), model.count(0));
            int last = model.count(0) - 1;
            Check.due("the last step's needs", x.step(last, 1), model.step(last, 1));
            Check.due("undo()", x.undo(), model.undo());
        }
        if (more > 0) {
            for (char c : SHORT) {
                shortTexts(first, text + c, more - 1);
            }
        }
    }

    private int any(int bound) {
        return random.nextInt(bound);
    }

    /** A number that is in the range for the most part. */
    private int near(int from, int to) {
        int odd = any(60);
        if (odd == 0) {
            return random.nextInt();
        }
        return odd < 4 ? from - 1 + any(to - from + 3) : from + any(to - from + 1);
    }

    private void change() {
        int kind = manyPhotos && any(3) == 0 ? 60 : any(100);
        if (kind < 30) {
            due("write()", real.write(), model.write());
        } else if (kind < 45) {
            changePlan();
        } else if (kind < 60) {
            int step = near(0, Math.max(0, model.count(1) - 1));
            due("ask(" + step + ")", real.ask(step), model.ask(step));
        } else if (kind < 70) {
            int panel = near(0, 5);
            due("photo(" + panel + ")", real.photo(panel), model.photo(panel));
        } else if (kind < 77) {
            int column = near(0, 2);
            due("pull(" + column + ")", real.pull(column), model.pull(column));
        } else if (kind < 83) {
            int panel = near(0, 5);
            boolean pinned = any(5) < 2;
            due("pin(" + panel + ", " + pinned + ")", real.pin(panel, pinned), model.pin(panel, pinned));
        } else if (kind < 86) {
            int panel = near(0, 5);
            due("wipe(" + panel + ")", real.wipe(panel), model.wipe(panel));
        } else if (kind < 88) {
            int lines = small ? near(4, 8) : near(4, 20);
            due("setRoom(" + lines + ")", real.setRoom(lines), model.setRoom(lines));
        } else if (kind < 93) {
            due("undo()", real.undo(), model.undo());
        } else if (kind < 95) {
            due("keep()", real.keep(), model.keep());
        } else if (kind < 96) {
            due("restore()", real.restore(), model.restore());
        } else {
            typeSome();
            due("readPlan() of " + model.text, real.readPlan(), model.readPlan());
        }
    }

    private void changePlan() {
        int lines = near(1, 4);
        int number = model.count(0);
        int needs = random.nextInt() & random.nextInt() & ((1 << Math.min(number, 30)) - 1);
        if (any(10) == 0) {
            needs = any(3) == 0 ? random.nextInt() : needs | 1 << number;
        }
        due("plan(" + lines + ", " + needs + ")", real.plan(lines, needs), model.plan(lines, needs));
    }

    private void typeSome() {
        if (any(3) > 0) {
            due("clearText()", real.clearText(), model.clearText());
        }
        String some = any(2) == 0 ? someSigns() : somePlan();
        for (char c : some.toCharArray()) {
            due("type", real.type(c), model.type(c));
        }
    }

    private String someSigns() {
        StringBuilder some = new StringBuilder();
        for (int i = any(70); i > 0; i--) {
            some.append(SIGNS.charAt(any(SIGNS.length())));
        }
        return some.toString();
    }

    private String somePlan() {
        StringBuilder some = new StringBuilder();
        int number = model.count(0);
        for (int i = any(5); i >= 0; i--) {
            some.append((char) ('1' + any(4)));
            for (int n = any(4); n > 0; n--) {
                some.append(some.charAt(some.length() - 1) == '<' || some.indexOf("<", some.lastIndexOf(";") + 1) >= 0 ? ',' : '<');
                some.append(any(Math.max(1, number) + (any(8) == 0 ? 2 : 0)));
            }
            some.append(i > 0 ? ";" : "");
            number++;
        }
        return some.toString();
    }

    private void compareOne() {
        int kind = any(20);
        if (kind < 4) {
            int what = near(0, 15);
            due("count(" + what + ")", real.count(what), model.count(what));
        } else if (kind < 9) {
            int panel = near(0, 5);
            int what = near(0, 5);
            due("panel(" + panel + ", " + what + ")", real.panel(panel, what), model.panel(panel, what));
        } else if (kind < 14) {
            int step = near(0, Math.max(0, model.count(0) - 1));
            int what = near(0, 6);
            due("step(" + step + ", " + what + ")", real.step(step, what), model.step(step, what));
        } else if (kind < 16) {
            int photo = near(0, Math.max(0, model.count(5) - 1));
            int what = near(0, 1);
            due("photoOf(" + photo + ", " + what + ")", real.photoOf(photo, what), model.photoOf(photo, what));
        } else if (kind < 19) {
            int what = near(0, 5);
            due("wouldBe(" + what + ")", real.wouldBe(what), model.wouldBe(what));
        } else {
            due("photosNeeded()", real.photosNeeded(), model.photosNeeded());
        }
    }
}
