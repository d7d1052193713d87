/** For each promise: ordinary inputs, the edges that the document names, and wrong inputs. */
public final class PromisesTest {
    private static final int UNKNOWN = PulledPanels.UNKNOWN;
    private static final int BAD_VALUE = PulledPanels.BAD_VALUE;
    private static final int FULL = PulledPanels.FULL;
    private static final int NOT_POSSIBLE = PulledPanels.NOT_POSSIBLE;
    private static final int NONE = PulledPanels.NONE;
    private static final int LEAST = Integer.MIN_VALUE;
    private static final int MOST = Integer.MAX_VALUE;

    public static void main(String[] args) {
        newObject();
        setRoom();
        plan();
        readPlan();
        readPlanFaults();
        readPlanNumbers();
        readPlanFull();
        write();
        writePinned();
        writeNeeds();
        pull();
        pin();
        wipe();
        photo();
        ask();
        typeAndClear();
        undo();
        historyHoldsFour();
        actsRecord();
        keepAndRestore();
        panel();
        step();
        photoOf();
        wouldBe();
        wouldBeUpToOne();
        photosNeeded();
        count();
        Check.end();
    }

    private static void due(String what, long got, long want) {
        Check.due(what, got, want);
    }

    private static void newObject() {
        Check.part("1 new object");
        PulledPanels x = new PulledPanels();
        for (int what = 0; what <= 15; what++) {
            due("count(" + what + ")", x.count(what), what == 13 ? 12 : 0);
        }
        for (int panel = 0; panel < 6; panel++) {
            for (int what = 0; what <= 5; what++) {
                int want = what == 2 && panel % 2 == 0 ? 1 : 0;
                due("panel(" + panel + ", " + what + ")", x.panel(panel, what), want);
            }
        }
        due("step(0, 0)", x.step(0, 0), UNKNOWN);
        due("photoOf(0, 0)", x.photoOf(0, 0), NONE);
        due("undo()", x.undo(), NONE);
        due("restore()", x.restore(), NONE);
        due("photosNeeded()", x.photosNeeded(), 0);
        PulledPanels other = new PulledPanels();
        x.plan(1, 0);
        x.write();
        due("another object's count(0)", other.count(0), 0);
        due("another object's panel(0, 0)", other.panel(0, 0), 0);
    }

    private static void setRoom() {
        Check.part("2 setRoom");
        PulledPanels x = new PulledPanels();
        for (int lines : new int[] {3, 21, 0, -4, LEAST, MOST}) {
            due("setRoom(" + lines + ")", x.setRoom(lines), BAD_VALUE);
        }
        due("setRoom(12)", x.setRoom(12), NONE);
        due("count(14)", x.count(14), 0);
        due("setRoom(4)", x.setRoom(4), 12);
        due("setRoom(20)", x.setRoom(20), 4);
        due("count(13)", x.count(13), 20);
        due("count(14)", x.count(14), 2);
        x = Lectures.planned(4, 3, 2);
        Lectures.writeTimes(x, 3);
        due("setRoom(8) with 9 lines", x.setRoom(8), NOT_POSSIBLE);
        due("setRoom(3) with 9 lines", x.setRoom(3), BAD_VALUE);
        due("setRoom(9) with 9 lines", x.setRoom(9), 12);
        due("setRoom(9) again", x.setRoom(9), NONE);
        x.pull(0);
        due("setRoom(8) with 9 lines behind", x.setRoom(8), NOT_POSSIBLE);
        x = Lectures.full(7);
        x.setRoom(8);
        Lectures.writeTimes(x, 7);
        due("setRoom(7) with 8 lines on panels not in use", x.setRoom(7), NOT_POSSIBLE);
        due("count(13)", x.count(13), 8);
        x = Lectures.planned(4, 4, 4, 1);
        Lectures.writeTimes(x, 4);
        due("the step beyond 12 lines", x.step(3, 3), 1);
        due("setRoom(13)", x.setRoom(13), 12);
    }

    private static void plan() {
        Check.part("3 plan");
        PulledPanels x = new PulledPanels();
        for (int lines : new int[] {0, 5, -1, LEAST, MOST}) {
            due("plan(" + lines + ", 0)", x.plan(lines, 0), BAD_VALUE);
        }
        for (int needs : new int[] {1, 2, -1, LEAST, MOST}) {
            due("plan(1, " + needs + ")", x.plan(1, needs), BAD_VALUE);
        }
        due("count(0)", x.count(0), 0);
        due("plan(1, 0)", x.plan(1, 0), 0);
        due("plan(4, 1)", x.plan(4, 1), 1);
        due("plan(2, 4)", x.plan(2, 4), BAD_VALUE);
        due("plan(2, 5)", x.plan(2, 5), BAD_VALUE);
        due("plan(2, -1)", x.plan(2, -1), BAD_VALUE);
        due("plan(2, 3)", x.plan(2, 3), 2);
        due("step(2, 0)", x.step(2, 0), 2);
        due("step(2, 1)", x.step(2, 1), 3);
        for (int number = 3; number < 30; number++) {
            due("plan(1, 1 << " + number + ")", x.plan(1, 1 << number), BAD_VALUE);
            due("plan(1, all)", x.plan(1, (1 << number) - 1), number);
        }
        due("step(29, 1)", x.step(29, 1), (1 << 29) - 1);
        due("plan(1, 0) behind 30", x.plan(1, 0), FULL);
        due("plan(1, 2 ** 29) behind 30", x.plan(1, 1 << 29), FULL);
        due("plan(1, 2 ** 30) behind 30", x.plan(1, 1 << 30), BAD_VALUE);
        due("plan(5, 0) behind 30", x.plan(5, 0), BAD_VALUE);
        due("count(0)", x.count(0), 30);
    }

    private static void readPlan() {
        Check.part("4 readPlan");
        PulledPanels x = new PulledPanels();
        due("one step", Lectures.read(x, "3"), 1);
        due("the text stays", x.count(15), 1);
        due("read again", x.readPlan(), 2);
        due("step(1, 0)", x.step(1, 0), 3);
        due("with needs", Lectures.read(x, "1<0;2<0,2;4<3,1,0"), 5);
        due("step(2, 1)", x.step(2, 1), 1);
        due("step(3, 0)", x.step(3, 0), 2);
        due("step(3, 1)", x.step(3, 1), 5);
        due("step(4, 0)", x.step(4, 0), 4);
        due("step(4, 1)", x.step(4, 1), 11);
        due("a number twice", Lectures.read(x, "1<2,2"), 6);
        due("step(5, 1)", x.step(5, 1), 4);
        due("one act each", x.count(14), 4);
        due("undo()", x.undo(), 3);
        due("undone at once", x.count(0), 5);
        due("undo()", x.undo(), 2);
        due("all steps of the text undone", x.count(0), 2);
        due("the text is no part of it", x.count(15), 5);
    }

    private static void readPlanFaults() {
        Check.part("4 readPlan, faults");
        String[] texts = {"", "0", "5", " ", "1 ", "11", "1;", ";", "1;;", "1<", "1<0", "1<;", "1;1<", "1;1<1",
            "1;1<0,", "1;1<0,,", "1;1<0<", "1;1<00", "1;1<01", "1;1<,", "1;1<;", "1,", "1;1<0;", "1;1<0;0", "1<<",
            "1;2<0;x", "1;2<0;3<2", "1;2<0;3<1x"};
        int[] faults = {0, 0, 0, 0, 1, 1, 2, 0, 2, 2, 2, 2, 4, 4,
            6, 6, 5, 5, 5, 4, 4, 1, 6, 6, 2,
            6, 8, 9};
        for (int i = 0; i < texts.length; i++) {
            PulledPanels x = new PulledPanels();
            due("fault of \"" + texts[i] + "\"", Lectures.read(x, texts[i]), -100 - faults[i]);
            due("steps after it", x.count(0), 0);
            due("states after it", x.count(14), 0);
        }
        PulledPanels x = new PulledPanels();
        x.type((char) 0x131);
        due("a character far off", x.readPlan(), -100);
        x.clearText();
        x.type((char) 0xff11);
        due("another kind of digit", x.readPlan(), -100);
        x.plan(1, 0);
        due("as the plan is now", Lectures.read(x, "1<0"), 2);
    }

    private static void readPlanNumbers() {
        Check.part("4 readPlan, numbers");
        PulledPanels x = Lectures.planned(1, 1, 1, 1, 1, 1, 1, 1, 1, 1);
        due("two digits as large as the step", Lectures.read(x, "1<10"), -103);
        due("one digit", Lectures.read(x, "1<9"), 11);
        due("step(10, 1)", x.step(10, 1), 1 << 9);
        due("two digits", Lectures.read(x, "1<10,1,0"), 12);
        due("step(11, 1)", x.step(11, 1), (1 << 10) + 3);
        due("the second digit is too large", Lectures.read(x, "1<12"), -103);
        due("the second digit is not too large", Lectures.read(x, "1<11"), 13);
        due("step(12, 1)", x.step(12, 1), 1 << 11);
        due("three digits", Lectures.read(x, "1<111"), -104);
        due("0 with a digit behind", Lectures.read(x, "1<00"), -103);
        due("a later number", Lectures.read(x, "1<0,2,13"), -107);
        due("20 of 13", Lectures.read(x, "2<20"), -103);
        due("9 of 13", Lectures.read(x, "2<9,8"), 14);
        due("step(13, 1)", x.step(13, 1), (1 << 9) + (1 << 8));
    }

    private static void readPlanFull() {
        Check.part("4 readPlan, full");
        PulledPanels x = new PulledPanels();
        String thirty = "1" + ";1".repeat(29);
        due("30 steps", Lectures.read(x, thirty), 30);
        due("one more", Lectures.read(x, "1"), FULL);
        due("a fault ahead of it", Lectures.read(x, "1;x"), -102);
        due("numbers from 30 on", Lectures.read(x, "1;1<30;1<31,30"), FULL);
        due("a number that is not less", Lectures.read(x, "1;1<31"), -105);
        due("count(0)", x.count(0), 30);
        due("count(14)", x.count(14), 1);
        x = Lectures.planned(1);
        due("31 steps", Lectures.read(x, thirty), FULL);
        due("none of them", x.count(0), 1);
        x.undo();
        due("30 steps", Lectures.read(x, thirty), 30);
        x = new PulledPanels();
        due("too early behind 60 characters", Lectures.read(x, thirty + ";"), -160);
    }

    private static void write() {
        Check.part("5 write");
        PulledPanels x = new PulledPanels();
        due("nothing planned", x.write(), NOT_POSSIBLE);
        due("count(14)", x.count(14), 0);
        x = Lectures.planned(4, 4, 4, 4, 1, 4, 4);
        for (int want : new int[] {0, 0, 0, 1, 1, 1, 2}) {
            due("write()", x.write(), want);
        }
        due("all are written", x.write(), NOT_POSSIBLE);
        due("count(1)", x.count(1), 7);
        due("count(2)", x.count(2), 2);
        due("wipes of empty panels", x.count(4), 2);
        due("panel(1, 4)", x.panel(1, 4), 1);
        due("panel(0, 4)", x.panel(0, 4), 0);
        due("pulls", x.count(3), 1);
        due("panel(0, 0)", x.panel(0, 0), 7);
        due("panel(1, 0)", x.panel(1, 0), 0b111000);
        x = Lectures.full(8);
        for (int want : new int[] {0, 1, 2, 3, 4, 5, 0, 1}) {
            due("write() going round", x.write(), want);
        }
        due("step 0 is wiped", x.step(0, 3), NONE);
        due("panel(0, 0)", x.panel(0, 0), 1 << 6);
        due("panel(0, 4)", x.panel(0, 4), 1);
        due("count(3)", x.count(3), 5);
        due("count(4)", x.count(4), 7);
        x = Lectures.planned(1);
        x.pull(0);
        due("the panel in use is behind", x.write(), 0);
        due("it is pulled", x.panel(0, 2), 1);
        due("count(3)", x.count(3), 2);
    }

    private static void writePinned() {
        Check.part("5 write, pinned");
        PulledPanels x = Lectures.full(4);
        x.pin(0, true);
        due("a pinned panel in use with room", x.write(), 0);
        x.pin(1, true);
        x.pin(3, true);
        due("1 is pinned", x.write(), 2);
        due("3 is pinned", x.write(), 4);
        x.pin(5, true);
        x.pin(2, true);
        due("the one in use is not wiped for itself", x.write(), NOT_POSSIBLE);
        due("count(1)", x.count(1), 3);
        due("count(2)", x.count(2), 4);
        due("count(4)", x.count(4), 2);
        x.pin(3, false);
        due("round to 3", x.write(), 3);
        x = Lectures.full(1);
        for (int panel = 0; panel < 6; panel++) {
            x.pin(panel, true);
        }
        due("all pinned, room in use", x.write(), 0);
    }

    private static void writeNeeds() {
        Check.part("5 write, needs");
        PulledPanels x = Lectures.full(1);
        x.plan(4, 1);
        x.write();
        due("write()", x.write(), 1);
        due("the needed one is hidden", x.count(6), 1);
        due("it is not pulled", x.panel(1, 2), 1);
        x.plan(4, 3);
        due("write()", x.write(), 2);
        due("0 was pulled, then 1", x.panel(1, 2), 1);
        due("pulls", x.count(3), 3);
        due("hidden", x.count(6), 1);
        x = Lectures.full(6);
        Lectures.writeTimes(x, 3);
        x.photo(2);
        Lectures.writeTimes(x, 3);
        x.plan(4, 0b1);
        x.plan(1, 0b1);
        x.plan(3, 0b1000101);
        due("the panel is wiped for it", x.write(), 0);
        due("so what it needs is lost", x.count(8), 1);
        Lectures.writeTimes(x, 2);
        due("lost again", x.count(8), 3);
        x.plan(4, 0b100);
        x.write();
        due("a photo alone", x.count(7), 1);
        due("lost", x.count(8), 3);
        x = Lectures.full(7);
        x.write();
        x.photo(0);
        Lectures.writeTimes(x, 6);
        x.plan(4, 0b11);
        due("write()", x.write(), 1);
        due("a photo alone", x.count(7), 1);
        due("lost by this very write", x.count(8), 1);
        x = Lectures.full(3);
        x.plan(1, 0b11);
        Lectures.writeTimes(x, 4);
        due("the lowest first", x.panel(1, 2), 1);
        due("pulls: 1, 3, and both of 0", x.count(3), 4);
        x = Lectures.planned(1);
        x.plan(1, 1);
        Lectures.writeTimes(x, 2);
        due("needed and in front", x.count(6) + x.count(7) + x.count(8) + x.count(3), 0);
    }

    private static void pull() {
        Check.part("6 pull");
        PulledPanels x = new PulledPanels();
        for (int column : new int[] {-1, 3, LEAST, MOST}) {
            due("pull(" + column + ")", x.pull(column), UNKNOWN);
        }
        due("count(14)", x.count(14), 0);
        due("pull(0)", x.pull(0), 1);
        due("pull(1)", x.pull(1), 3);
        due("pull(2)", x.pull(2), 5);
        due("pull(2)", x.pull(2), 4);
        due("count(3)", x.count(3), 4);
        due("panel(0, 2)", x.panel(0, 2), 0);
        due("panel(1, 2)", x.panel(1, 2), 1);
        due("panel(4, 2)", x.panel(4, 2), 1);
        due("panel(5, 2)", x.panel(5, 2), 0);
        due("count(14)", x.count(14), 4);
        due("count(2)", x.count(2), 0);
    }

    private static void pin() {
        Check.part("7 pin");
        PulledPanels x = new PulledPanels();
        for (int panel : new int[] {-1, 6, LEAST, MOST}) {
            due("pin(" + panel + ", true)", x.pin(panel, true), UNKNOWN);
            due("pin(" + panel + ", false)", x.pin(panel, false), UNKNOWN);
        }
        due("pin(0, false)", x.pin(0, false), NONE);
        due("pin(5, true)", x.pin(5, true), 1);
        due("pin(5, true)", x.pin(5, true), NONE);
        due("pin(0, true)", x.pin(0, true), 2);
        due("count(14)", x.count(14), 2);
        due("panel(5, 3)", x.panel(5, 3), 1);
        due("panel(4, 3)", x.panel(4, 3), 0);
        due("pin(5, false)", x.pin(5, false), 1);
        due("pin(0, false)", x.pin(0, false), 0);
        due("panel(5, 3)", x.panel(5, 3), 0);
    }

    private static void wipe() {
        Check.part("8 wipe");
        PulledPanels x = Lectures.planned(1, 1, 1);
        Lectures.writeTimes(x, 2);
        for (int panel : new int[] {-1, 6, LEAST, MOST}) {
            due("wipe(" + panel + ")", x.wipe(panel), UNKNOWN);
        }
        due("empty", x.wipe(2), NONE);
        due("empty and behind", x.wipe(3), NOT_POSSIBLE);
        x.pin(2, true);
        due("empty and pinned", x.wipe(2), NOT_POSSIBLE);
        x.pin(0, true);
        due("pinned", x.wipe(0), NOT_POSSIBLE);
        x.pin(0, false);
        x.pull(0);
        due("behind", x.wipe(0), NOT_POSSIBLE);
        x.pull(0);
        due("count(4)", x.count(4), 0);
        due("two steps", x.wipe(0), 2);
        due("count(4)", x.count(4), 1);
        due("panel(0, 4)", x.panel(0, 4), 1);
        due("panel(0, 1)", x.panel(0, 1), 0);
        due("step(1, 3)", x.step(1, 3), NONE);
        due("step(1, 2)", x.step(1, 2), 1);
        due("again", x.wipe(0), NONE);
        due("still in use", x.write(), 0);
        due("count(4)", x.count(4), 1);
    }

    private static void photo() {
        Check.part("9 photo");
        PulledPanels x = Lectures.planned(1, 1, 1);
        for (int panel : new int[] {-1, 6, LEAST, MOST}) {
            due("photo(" + panel + ")", x.photo(panel), UNKNOWN);
        }
        due("empty", x.photo(0), NOT_POSSIBLE);
        Lectures.writeTimes(x, 2);
        x.pull(0);
        due("behind", x.photo(0), NOT_POSSIBLE);
        due("in front and empty", x.photo(1), NOT_POSSIBLE);
        x.pull(0);
        due("two for the first time", x.photo(0), 2);
        due("none for the first time", x.photo(0), 0);
        x.write();
        due("one for the first time", x.photo(0), 1);
        due("count(5)", x.count(5), 3);
        x.pin(0, true);
        due("pinned ones too", x.photo(0), 0);
        for (int taken = 4; taken < 40; taken++) {
            due("photo " + taken, x.photo(0), 0);
        }
        due("the 41st", x.photo(0), FULL);
        due("empty ahead of full", x.photo(2), NOT_POSSIBLE);
        due("behind ahead of full", x.photo(1), NOT_POSSIBLE);
        due("unknown ahead of full", x.photo(6), UNKNOWN);
        due("count(5)", x.count(5), 40);
        x.undo();
        due("room again", x.photo(0), 0);
    }

    private static void ask() {
        Check.part("10 ask");
        PulledPanels x = Lectures.full(4);
        for (int step : new int[] {-1, 4, 30, 32, LEAST, MOST}) {
            due("ask(" + step + ")", x.ask(step), UNKNOWN);
        }
        due("not yet written", x.ask(0), NOT_POSSIBLE);
        Lectures.writeTimes(x, 2);
        due("not yet written", x.ask(2), NOT_POSSIBLE);
        due("in front", x.ask(1), 0);
        due("behind, in the column of the panel in use", x.ask(0), 1);
        due("it is pulled", x.panel(0, 2), 1);
        due("count(3)", x.count(3), 2);
        due("in front now", x.ask(0), 0);
        due("count(3)", x.count(3), 2);
        x.setRoom(8);
        x.write();
        due("pulled back", x.count(3), 3);
        due("step 2 beside step 1", x.step(2, 3), 1);
        x.photo(1);
        x.wipe(1);
        due("on a photo", x.ask(1), 2);
        due("on a photo", x.ask(2), 2);
        x.ask(0);
        x.wipe(0);
        due("lost", x.ask(0), 3);
        due("count(9)", x.count(9), 4);
        due("count(10)", x.count(10), 2);
        due("count(11)", x.count(11), 1);
        due("step(0, 5)", x.step(0, 5), 4);
        due("step(3, 5)", x.step(3, 5), 0);
        due("hidden, photo, lost as needed", x.count(6) + x.count(7) + x.count(8), 0);
        x = Lectures.full(1);
        x.write();
        x.photo(0);
        due("a panel goes ahead of a photo", x.ask(0), 0);
    }

    private static void typeAndClear() {
        Check.part("11 type");
        PulledPanels x = new PulledPanels();
        for (int length = 1; length <= 60; length++) {
            due("type", x.type((char) (length * 1111)), length);
        }
        due("the 61st", x.type('1'), FULL);
        due("count(15)", x.count(15), 60);
        due("no act", x.count(14), 0);
        Check.part("12 clearText");
        due("clearText()", x.clearText(), 60);
        due("clearText()", x.clearText(), 0);
        due("count(15)", x.count(15), 0);
        due("type", x.type('2'), 1);
        due("nothing of the old text is left", x.readPlan(), 1);
        due("clearText()", x.clearText(), 1);
        due("no act", x.count(14), 1);
    }

    private static void undo() {
        Check.part("13 undo");
        PulledPanels x = Lectures.full(3);
        due("undo()", x.undo(), 3);
        due("count(0)", x.count(0), 2);
        x.write();
        x.photo(0);
        x.ask(0);
        due("undo of ask", x.undo(), 3);
        due("step(0, 5)", x.step(0, 5), 0);
        due("count(9)", x.count(9), 0);
        due("undo of photo", x.undo(), 2);
        due("count(5)", x.count(5), 0);
        due("panel(0, 5)", x.panel(0, 5), 1);
        due("photoOf(0, 0)", x.photoOf(0, 0), NONE);
        due("undo of write", x.undo(), 1);
        due("count(1)", x.count(1), 0);
        due("panel(0, 0)", x.panel(0, 0), 0);
        due("undo of plan", x.undo(), 0);
        due("count(0)", x.count(0), 1);
        due("empty", x.undo(), NONE);
        due("count(0)", x.count(0), 1);
        x.type('1');
        x.plan(1, 0);
        x.undo();
        due("the text is no part of it", x.count(15), 1);
        undoOfCounts();
        undoOfPhotos();
    }

    private static void undoOfCounts() {
        PulledPanels x = Lectures.full(2);
        x.plan(1, 0b11);
        x.plan(1, 0b11);
        x.write();
        x.photo(0);
        Lectures.writeTimes(x, 2);
        due("hidden, and pulled", x.count(3), 3);
        x.wipe(1);
        x.ask(0);
        x.wipe(0);
        x.ask(0);
        x.ask(1);
        x.write();
        for (int what = 7; what <= 11; what++) {
            due("count(" + what + ")", x.count(what), 1);
        }
        x.undo();
        due("a photo alone, undone", x.count(7), 0);
        due("lost, undone", x.count(8), 0);
        x.undo();
        due("lost questions, undone", x.count(11), 0);
        x.undo();
        due("questions from photos, undone", x.count(10), 0);
        x = Lectures.full(1);
        x.plan(4, 1);
        Lectures.writeTimes(x, 2);
        due("hidden", x.count(6), 1);
        x.undo();
        due("hidden, undone", x.count(6), 0);
    }

    private static void undoOfPhotos() {
        PulledPanels x = Lectures.full(3);
        Lectures.writeTimes(x, 3);
        x.keep();
        x.photo(1);
        x.undo();
        x.photo(2);
        due("in place of the photo that was undone", x.photoOf(0, 0), 2);
        due("its steps", x.photoOf(0, 1), 4);
        x.restore();
        x.photo(1);
        x.undo();
        x.undo();
        due("the photo is there again", x.photoOf(0, 0), 2);
        due("its steps", x.photoOf(0, 1), 4);
        due("the step is on it", x.step(2, 4), 1);
        due("the other step is not", x.step(1, 4), 0);
    }

    private static void historyHoldsFour() {
        Check.part("13 undo, four states");
        PulledPanels x = new PulledPanels();
        for (int room = 4; room <= 11; room++) {
            x.setRoom(room);
            due("count(14)", x.count(14), Math.min(room - 3, 4));
        }
        for (int left = 3; left >= 0; left--) {
            due("undo()", x.undo(), left);
            due("count(13)", x.count(13), 7 + left);
        }
        due("undo()", x.undo(), NONE);
        due("count(13)", x.count(13), 7);
    }

    private static void actsRecord() {
        Check.part("13 undo, what is recorded");
        PulledPanels x = Lectures.planned(1, 1);
        while (x.undo() >= 1) {
            continue;
        }
        x.plan(1, 0);
        x.plan(1, 0);
        due("plan", x.count(14), 2);
        x.undo();
        x.undo();
        x.type('1');
        x.clearText();
        x.keep();
        x.count(0);
        x.wouldBe(0);
        x.photosNeeded();
        due("no acts", x.count(14), 0);
        x.plan(5, 0);
        x.write();
        x.pull(7);
        x.pin(0, false);
        x.wipe(0);
        x.photo(0);
        x.ask(0);
        x.readPlan();
        x.setRoom(12);
        due("errors and NONE", x.count(14), 0);
        x.restore();
        due("restore", x.count(14), 1);
        x.pin(0, true);
        due("pin", x.count(14), 2);
        x.pin(0, false);
        due("pin, though it returns 0", x.count(14), 3);
        x.undo();
        due("undo of pin", x.panel(0, 3), 1);
        x.undo();
        due("undo of pin", x.panel(0, 3), 0);
        x.pull(1);
        due("pull", x.count(14), 2);
        x.undo();
        due("undo of pull", x.panel(2, 2), 1);
        due("undo of pull", x.count(3), 0);
        x.plan(1, 0);
        x.write();
        due("write, though it returns 0", x.count(14), 3);
        x.wipe(0);
        due("wipe", x.count(14), 4);
        x.undo();
        due("undo of wipe", x.panel(0, 0), 1);
        due("undo of wipe", x.count(4), 0);
        due("undo of wipe", x.panel(0, 4), 0);
    }

    private static void keepAndRestore() {
        Check.part("14 keep");
        PulledPanels x = Lectures.full(3);
        due("keep()", x.keep(), 0);
        Lectures.writeTimes(x, 2);
        due("keep()", x.keep(), 2);
        x.write();
        x.type('1');
        due("count(14)", x.count(14), 4);
        Check.part("15 restore");
        due("restore()", x.restore(), 2);
        due("count(1)", x.count(1), 2);
        due("panel(2, 0)", x.panel(2, 0), 0);
        due("the text is no part of it", x.count(15), 1);
        due("the history is no part of it", x.count(14), 4);
        due("it is an act", x.undo(), 3);
        due("count(1)", x.count(1), 3);
        x.undo();
        x.undo();
        x.undo();
        due("undo leaves the snapshot", x.restore(), 2);
        due("it stays", x.restore(), 2);
        x.write();
        x.plan(1, 0);
        due("it is no part of later changes", x.restore(), 2);
        due("count(0)", x.count(0), 3);
        PulledPanels none = new PulledPanels();
        due("no snapshot", none.restore(), NONE);
        due("no snapshot", none.count(14), 0);
        due("keep() of nothing", none.keep(), 0);
        none.pull(0);
        due("a snapshot of nothing", none.restore(), 0);
        due("pulls", none.count(3), 0);
        due("count(14)", none.count(14), 2);
    }

    private static void panel() {
        Check.part("16 panel");
        PulledPanels x = Lectures.planned(4, 4, 3, 2);
        Lectures.writeTimes(x, 3);
        x.photo(0);
        x.write();
        x.pin(1, true);
        int[] zero = {7, 11, 0, 0, 0, 0};
        int[] one = {8, 2, 1, 1, 1, 8};
        for (int what = 0; what <= 5; what++) {
            due("panel(0, " + what + ")", x.panel(0, what), zero[what]);
            due("panel(1, " + what + ")", x.panel(1, what), one[what]);
        }
        for (int wrong : new int[] {-1, 6, LEAST, MOST}) {
            due("panel(" + wrong + ", 0)", x.panel(wrong, 0), UNKNOWN);
            due("panel(0, " + wrong + ")", x.panel(0, wrong), BAD_VALUE);
            due("panel(" + wrong + ", -1)", x.panel(wrong, -1), UNKNOWN);
        }
    }

    private static void step() {
        Check.part("17 step");
        PulledPanels x = Lectures.full(1);
        x.plan(4, 1);
        x.plan(3, 3);
        x.plan(2, 1);
        Lectures.writeTimes(x, 3);
        x.photo(1);
        x.ask(1);
        x.ask(1);
        int[] one = {4, 1, 1, 1, 1, 2, 1};
        int[] three = {2, 1, 0, NONE, 0, 0, 0};
        for (int what = 0; what <= 6; what++) {
            due("step(1, " + what + ")", x.step(1, what), one[what]);
            due("step(3, " + what + ")", x.step(3, what), three[what]);
        }
        due("needed by two written ones", x.step(0, 6), 2);
        x.write();
        due("needed by three written ones", x.step(0, 6), 3);
        x.pull(0);
        x.wipe(1);
        due("on none", x.step(1, 3), NONE);
        due("on a photo", x.step(1, 4), 1);
        for (int wrong : new int[] {-1, 4, 30, 31, LEAST, MOST}) {
            due("step(" + wrong + ", 0)", x.step(wrong, 0), UNKNOWN);
            due("step(" + wrong + ", 9)", x.step(wrong, 9), UNKNOWN);
        }
        for (int wrong : new int[] {-1, 7, LEAST, MOST}) {
            due("step(0, " + wrong + ")", x.step(0, wrong), BAD_VALUE);
        }
    }

    private static void photoOf() {
        Check.part("18 photoOf");
        PulledPanels x = Lectures.full(3);
        x.write();
        x.photo(0);
        Lectures.writeTimes(x, 2);
        x.photo(2);
        due("photoOf(0, 0)", x.photoOf(0, 0), 0);
        due("photoOf(0, 1)", x.photoOf(0, 1), 1);
        due("photoOf(1, 0)", x.photoOf(1, 0), 2);
        due("photoOf(1, 1)", x.photoOf(1, 1), 4);
        x.wipe(2);
        due("photoOf(1, 1) after a wipe", x.photoOf(1, 1), 4);
        due("the first photo's step is still on one", x.step(0, 4), 1);
        due("the step on no photo", x.step(1, 4), 0);
        for (int photo : new int[] {2, 39, 40, 41, MOST}) {
            due("photoOf(" + photo + ", 0)", x.photoOf(photo, 0), NONE);
            due("photoOf(" + photo + ", 2)", x.photoOf(photo, 2), BAD_VALUE);
        }
        for (int wrong : new int[] {-1, LEAST}) {
            due("photoOf(" + wrong + ", 0)", x.photoOf(wrong, 0), BAD_VALUE);
            due("photoOf(0, " + wrong + ")", x.photoOf(0, wrong), BAD_VALUE);
        }
        due("photoOf(0, 2)", x.photoOf(0, 2), BAD_VALUE);
        due("photoOf(0, MOST)", x.photoOf(0, MOST), BAD_VALUE);
        x = Lectures.full(1);
        x.write();
        for (int i = 0; i < 40; i++) {
            x.photo(0);
        }
        due("photoOf(39, 1)", x.photoOf(39, 1), 1);
        due("photoOf(40, 1)", x.photoOf(40, 1), NONE);
    }

    private static void wouldBe() {
        Check.part("19 wouldBe");
        PulledPanels x = Lectures.full(3);
        x.plan(4, 0b001);
        x.plan(4, 0b100);
        x.plan(4, 0b100);
        x.plan(4, 0b001);
        x.plan(4, 0b011);
        x.write();
        x.photo(0);
        // 1 pulled; 2; 3 pulled, needs 0: pulled; 4 needs 2: pulled; 5 pulled, needs 2;
        // 6 on 0 needs 0: photo alone; 7 on 1: pulled, needs 0: photo alone, 1: lost
        int[] want = {6, 7, 0, 2, 1, 7};
        for (int what = 0; what <= 5; what++) {
            due("wouldBe(" + what + ")", x.wouldBe(what), want[what]);
        }
        due("nothing is changed", x.count(1), 1);
        due("nothing is changed", x.count(3) + x.count(4), 0);
        due("nothing is recorded", x.undo(), 3);
        x.undo();
        due("without the photo and the first step", x.wouldBe(5), 8);
        due("lost in place of the photo", x.wouldBe(4), 3);
        for (int wrong : new int[] {-1, 6, LEAST, MOST}) {
            due("wouldBe(" + wrong + ")", x.wouldBe(wrong), BAD_VALUE);
        }
        x = Lectures.full(1);
        x.plan(4, 1);
        due("hidden", x.wouldBe(2), 1);
        Lectures.writeTimes(x, 2);
        for (int what = 0; what <= 5; what++) {
            due("from now on: wouldBe(" + what + ")", x.wouldBe(what), 0);
        }
        due("but so far", x.count(6), 1);
        x = Lectures.full(2);
        x.plan(1, 0b11);
        Lectures.writeTimes(x, 2);
        x.photo(1);
        x.wipe(1);
        x.pull(0);
        x.wipe(0);
        x.write();
        due("a photo alone, so far", x.count(7), 1);
        due("lost, so far", x.count(8), 1);
        x.plan(1, 0b11);
        x.plan(1, 0b10);
        due("a photo alone, from now on", x.wouldBe(3), 2);
        due("lost, from now on", x.wouldBe(4), 1);
    }

    private static void wouldBeUpToOne() {
        Check.part("19 wouldBe, up to one that cannot be");
        PulledPanels x = Lectures.full(3);
        for (int panel = 1; panel < 6; panel++) {
            x.pin(panel, true);
        }
        due("wouldBe(5)", x.wouldBe(5), 1);
        due("wouldBe(1)", x.wouldBe(1), 0);
        due("photosNeeded()", x.photosNeeded(), 0);
        x.pin(5, false);
        due("wouldBe(5)", x.wouldBe(5), 3);
        due("wouldBe(1)", x.wouldBe(1), 2);
        due("wouldBe(0)", x.wouldBe(0), 1);
        due("photosNeeded()", x.photosNeeded(), 1);
    }

    private static void photosNeeded() {
        Check.part("20 photosNeeded");
        PulledPanels x = Lectures.full(6);
        due("nothing is lost", x.photosNeeded(), 0);
        for (int i = 0; i < 8; i++) {
            x.plan(4, 0);
        }
        due("eight wipes of full panels", x.photosNeeded(), 8);
        x.write();
        x.photo(0);
        due("one is there already", x.photosNeeded(), 7);
        due("nothing is changed", x.count(1), 1);
        due("nothing is changed", x.count(5), 1);
        x.pin(0, true);
        due("a pinned one is not wiped", x.photosNeeded(), 8);
        x = Lectures.planned(1, 1);
        x.setRoom(4);
        x.write();
        x.photo(0);
        x.write();
        for (int i = 0; i < 6; i++) {
            x.plan(4, 0);
        }
        due("one step of two is on no photo", x.photosNeeded(), 1);
        x.photo(0);
        due("both are", x.photosNeeded(), 0);
        x = Lectures.full(8);
        Lectures.writeTimes(x, 6);
        due("panels that are behind too", x.photosNeeded(), 2);
        x.ask(0);
        x.wipe(0);
        due("a lost one needs none", x.photosNeeded(), 1);
        x = Lectures.full(8);
        x.write();
        for (int i = 0; i < 40; i++) {
            x.photo(0);
        }
        due("count(5)", x.count(5), 40);
        due("however many photos there are", x.photosNeeded(), 1);
    }

    private static void count() {
        Check.part("21 count");
        PulledPanels x = Lectures.full(7);
        x.plan(4, 0b1000101);
        x.plan(1, 0b1);
        Lectures.writeTimes(x, 2);
        x.pull(0);
        x.photo(0);
        Lectures.writeTimes(x, 6);
        x.ask(0);
        x.ask(1);
        x.ask(7);
        x.ask(4);
        x.ask(5);
        x.type('1');
        int[] want = {9, 8, 1, 8, 7, 1, 1, 1, 0, 3, 1, 1, 1, 4, 4, 1};
        for (int what = 0; what <= 15; what++) {
            due("count(" + what + ")", x.count(what), want[what]);
        }
        x.wipe(1);
        due("wipes of both kinds", x.count(4), 8);
        due("gone for good", x.count(12), 2);
        for (int wrong : new int[] {-1, 16, LEAST, MOST}) {
            due("count(" + wrong + ")", x.count(wrong), BAD_VALUE);
        }
    }
}
