import java.util.List;

/** The boundary cases that the document names of promises 1 to 4, a test for each sentence. */
public final class PlanBoundsTest {
    private static final int UNKNOWN = PulledPanels.UNKNOWN;
    private static final int BAD_VALUE = PulledPanels.BAD_VALUE;
    private static final int FULL = PulledPanels.FULL;
    private static final int NOT_POSSIBLE = PulledPanels.NOT_POSSIBLE;
    private static final int NONE = PulledPanels.NONE;
    private static final int LEAST = Integer.MIN_VALUE;
    private static final int MOST = Integer.MAX_VALUE;

    public static void main(String[] args) throws ReflectiveOperationException {
        Check.promises(PlanBoundsTest.class);
        Check.end();
    }

    private static void due(String what, long got, long want) {
        Check.due(what, got, want);
    }

    private static void promise01RoomForTwelveLines() {
        Check.part("1: a panel has room for 12 lines");
        PulledPanels x = Lectures.planned(4, 4, 3, 1, 1);
        for (int want : new int[] {0, 0, 0, 0, 1}) {
            due("write()", x.write(), want);
        }
        due("panel(0, 1)", x.panel(0, 1), 12);
        due("panel(1, 1)", x.panel(1, 1), 1);
    }

    private static void promise01EvenPanelsAreInFront() {
        Check.part("1: at first the one with the even number is in front");
        PulledPanels x = new PulledPanels();
        for (int panel = 0; panel < 6; panel++) {
            due("panel(" + panel + ", 2)", x.panel(panel, 2), 1 - panel % 2);
            due("wipe(" + panel + ")", x.wipe(panel), panel % 2 == 0 ? NONE : NOT_POSSIBLE);
        }
        due("count(3)", x.count(3), 0);
    }

    private static void promise01PanelZeroIsInUse() {
        Check.part("1: one panel is in use, 0 at first");
        PulledPanels x = Lectures.planned(1);
        due("count(2)", x.count(2), 0);
        due("write()", x.write(), 0);
        due("no wipe", x.count(4), 0);
        due("no pull", x.count(3), 0);
    }

    private static void promise01NoPanelIsPinned() {
        Check.part("1: at first none is pinned");
        PulledPanels x = new PulledPanels();
        for (int panel = 0; panel < 6; panel++) {
            due("panel(" + panel + ", 3)", x.panel(panel, 3), 0);
            due("pin(" + panel + ", false)", x.pin(panel, false), NONE);
        }
        due("pin(5, true)", x.pin(5, true), 1);
    }

    private static void promise01NoPlan() {
        Check.part("1: without a plan");
        PulledPanels x = new PulledPanels();
        due("count(0)", x.count(0), 0);
        due("write()", x.write(), NOT_POSSIBLE);
        due("ask(0)", x.ask(0), UNKNOWN);
        due("step(0, 0)", x.step(0, 0), UNKNOWN);
        due("photo(0)", x.photo(0), NOT_POSSIBLE);
        due("photosNeeded()", x.photosNeeded(), 0);
        due("wouldBe(5)", x.wouldBe(5), 0);
        due("the first number", x.plan(1, 0), 0);
    }

    private static void promise01TextIsEmpty() {
        Check.part("1: a text that is empty at first");
        PulledPanels x = new PulledPanels();
        due("count(15)", x.count(15), 0);
        due("readPlan()", x.readPlan(), -100);
        due("clearText()", x.clearText(), 0);
        due("type", x.type('1'), 1);
    }

    private static void promise01HistoryAndSnapshotAreEmpty() {
        Check.part("1: one snapshot, empty at first; no state in the history");
        PulledPanels x = new PulledPanels();
        due("count(14)", x.count(14), 0);
        due("undo()", x.undo(), NONE);
        due("restore()", x.restore(), NONE);
        due("photoOf(0, 0)", x.photoOf(0, 0), NONE);
    }

    private static void promise01ObjectsAreApart() {
        Check.part("1: an object of its own");
        List<String> busy = Twins.view(Lectures.busy());
        PulledPanels other = Lectures.busy();
        PulledPanels x = new PulledPanels();
        Twins.same("beside a busy one", Twins.view(x), Twins.view(new PulledPanels()));
        x.setRoom(20);
        Lectures.type(x, "4;4");
        x.readPlan();
        x.write();
        x.keep();
        x.photo(0);
        Twins.same("the busy one", Twins.view(other), busy);
        due("its snapshot", other.restore(), 3);
        due("its history", other.undo(), 3);
        Twins.same("one undone", Twins.state(other), busy.subList(2, busy.size()));
    }

    private static void promise02From4To20() {
        Check.part("2: 4 to 20 can be set, and the previous one is returned");
        PulledPanels x = new PulledPanels();
        int previous = 12;
        for (int lines : new int[] {4, 20, 5, 19, 12, 11, 13}) {
            due("setRoom(" + lines + ")", x.setRoom(lines), previous);
            due("count(13)", x.count(13), lines);
            previous = lines;
        }
        for (int lines = 4; lines <= 20; lines++) {
            due("setRoom(" + lines + ")", new PulledPanels().setRoom(lines), lines == 12 ? NONE : 12);
        }
    }

    private static void promise02Below4AndAbove20() {
        Check.part("2: BAD_VALUE below 4 and above 20");
        for (int lines : new int[] {3, 21, 0, -1, -4, -12, 36, LEAST, MOST}) {
            Twins.refusedAlways("setRoom(" + lines + ")", BAD_VALUE, x -> x.setRoom(lines));
        }
        Twins.refused("setRoom(3), though a panel has more lines than that", BAD_VALUE,
            () -> Lectures.fullWritten(1), x -> x.setRoom(3));
    }

    /** Six panels with 4 lines each, but for one that has 5. */
    private static PulledPanels fiveLinesOn(int panel) {
        PulledPanels x = new PulledPanels();
        x.setRoom(5);
        for (int each = 0; each < 6; each++) {
            x.plan(4, 0);
            if (each == panel) {
                x.plan(1, 0);
            }
        }
        return Lectures.writeTimes(x, 7);
    }

    private static void promise02PanelWithMoreLines() {
        Check.part("2: NOT_POSSIBLE if any panel has more lines than that");
        for (int panel = 0; panel < 6; panel++) {
            int five = panel;
            due("panel(" + panel + ", 1)", fiveLinesOn(five).panel(panel, 1), 5);
            Twins.refused("setRoom(4) with 5 lines on " + panel, NOT_POSSIBLE, () -> fiveLinesOn(five), x -> x.setRoom(4));
            PulledPanels x = fiveLinesOn(five);
            x.pull(panel / 2);
            due("setRoom(4) with 5 lines on " + panel + ", pulled", x.setRoom(4), NOT_POSSIBLE);
        }
        PulledPanels x = Lectures.planned(4, 4, 4, 4, 4);
        x.setRoom(20);
        Lectures.writeTimes(x, 5);
        for (int lines = 4; lines < 20; lines++) {
            due("setRoom(" + lines + ") with 20 lines", x.setRoom(lines), NOT_POSSIBLE);
        }
        due("count(13)", x.count(13), 20);
    }

    private static void promise02PanelWithAsManyLines() {
        Check.part("2: as many lines on a panel are not more than that");
        for (int panel = 0; panel < 6; panel++) {
            PulledPanels x = fiveLinesOn(panel);
            due("setRoom(6)", x.setRoom(6), 5);
            due("setRoom(5) with 5 lines on " + panel, x.setRoom(5), 6);
        }
        PulledPanels x = Lectures.writeTimes(Lectures.planned(4), 1);
        due("setRoom(4) with 4 lines", x.setRoom(4), 12);
        due("setRoom(4) with 4 lines, again", x.setRoom(4), NONE);
        due("count(2)", x.count(2), 0);
    }

    private static void promise02StepsOnNoPanelAreNotCounted() {
        Check.part("2: lines that are on no panel");
        PulledPanels x = Lectures.planned(4, 1, 4);
        due("planned ones", x.setRoom(4), 12);
        x.setRoom(5);
        Lectures.writeTimes(x, 2);
        due("5 lines on 0", x.setRoom(4), NOT_POSSIBLE);
        x.wipe(0);
        due("wiped ones", x.setRoom(4), 5);
    }

    private static void promise02SoAlready() {
        Check.part("2: NONE if it is so already");
        Twins.refused("setRoom(12) of a new object", NONE, PulledPanels::new, x -> x.setRoom(12));
        Twins.refused("setRoom(4) again", NONE, () -> Lectures.full(2), x -> x.setRoom(4));
        Twins.refused("setRoom(4), full panels", NONE, () -> Lectures.fullWritten(6), x -> x.setRoom(4));
        Twins.refused("setRoom(5), all things", NONE, Lectures::busy, x -> x.setRoom(5));
        PulledPanels x = new PulledPanels();
        x.setRoom(20);
        due("setRoom(20) again", x.setRoom(20), NONE);
        x.undo();
        due("setRoom(12), undone", x.setRoom(12), NONE);
    }

    private static void promise02RoomIsForAllPanels() {
        Check.part("2: the room is that of the panel in use and of later ones");
        PulledPanels x = Lectures.planned(4, 1, 4, 1, 1);
        x.setRoom(4);
        x.write();
        x.setRoom(5);
        due("a line more on 0", x.write(), 0);
        due("the next panel", x.write(), 1);
        due("a line more on 1", x.write(), 1);
        due("not two", x.write(), 2);
    }

    private static void promise03LinesFrom1To4() {
        Check.part("3: lines from 1 to 4");
        PulledPanels x = new PulledPanels();
        for (int lines = 1; lines <= 4; lines++) {
            due("plan(" + lines + ", 0)", x.plan(lines, 0), lines - 1);
            due("step(" + (lines - 1) + ", 0)", x.step(lines - 1, 0), lines);
        }
        for (int lines : new int[] {0, 5, -1, -4, 257, LEAST, MOST}) {
            Twins.refusedAlways("plan(" + lines + ", 0)", BAD_VALUE, y -> y.plan(lines, 0));
        }
    }

    private static void promise03NeedsLessThanItsNumber() {
        Check.part("3: needs that are all less than its number");
        PulledPanels x = new PulledPanels();
        due("the step 0 needs nothing", x.plan(1, 0), 0);
        for (int number = 1; number < 30; number++) {
            int needs = number % 2 == 0 ? (1 << number) - 1 : 1 << number - 1;
            due("plan(1, " + needs + ")", x.plan(1, needs), number);
            due("step(" + number + ", 1)", x.step(number, 1), needs);
        }
        PulledPanels all = Lectures.small(29);
        due("the step 29 needs all", all.plan(1, (1 << 29) - 1), 29);
        due("step(29, 1)", all.step(29, 1), (1 << 29) - 1);
    }

    private static void promise03NeedsFromItsNumberOn() {
        Check.part("3: BAD_VALUE for needs that are not less than its number");
        for (int number = 0; number < 30; number++) {
            int steps = number;
            for (int bit = number; bit < 32; bit++) {
                int needs = 1 << bit;
                due("plan(1, 2 ** " + bit + ") as " + number, Lectures.small(steps).plan(1, needs), BAD_VALUE);
                due("with all before", Lectures.small(steps).plan(1, needs | (1 << number) - 1), BAD_VALUE);
            }
            due("plan(1, -1) as " + number, Lectures.small(steps).plan(1, -1), BAD_VALUE);
        }
        Twins.refused("plan(1, 1) as 0", BAD_VALUE, PulledPanels::new, x -> x.plan(1, 1));
        Twins.refused("plan(1, 2 ** 9) as 9", BAD_VALUE, Lectures::busy, x -> x.plan(1, 1 << 9));
        Twins.refused("plan(1, 2 ** 29) as 29", BAD_VALUE, () -> Lectures.small(29), x -> x.plan(1, 1 << 29));
        Twins.refusedAlways("plan(1, MIN)", BAD_VALUE, x -> x.plan(1, LEAST));
        Twins.refusedAlways("plan(1, -1)", BAD_VALUE, x -> x.plan(1, -1));
    }

    private static void promise03ThirtySteps() {
        Check.part("3: FULL if there are 30");
        due("the 30th", Lectures.small(29).plan(4, 0), 29);
        Twins.refused("the 31st", FULL, () -> Lectures.small(30), x -> x.plan(1, 0));
        Twins.refused("the 31st, all written", FULL, () -> Lectures.writeTimes(Lectures.small(30), 30), x -> x.plan(1, 0));
        PulledPanels x = Lectures.small(30);
        due("count(0)", x.count(0), 30);
        x.undo();
        due("undone, room again", x.plan(1, 0), 29);
        due("and full again", x.plan(1, 0), FULL);
    }

    private static void promise03BadValueGoesAheadOfFull() {
        Check.part("3: BAD_VALUE goes ahead of FULL");
        for (int lines : new int[] {0, 5, LEAST, MOST}) {
            Twins.refused("plan(" + lines + ", 0)", BAD_VALUE, () -> Lectures.small(30), x -> x.plan(lines, 0));
        }
        for (int needs : new int[] {1 << 30, LEAST, -1, MOST}) {
            Twins.refused("plan(1, " + needs + ")", BAD_VALUE, () -> Lectures.small(30), x -> x.plan(1, needs));
        }
        due("all that are less than 30", Lectures.small(30).plan(1, (1 << 30) - 1), FULL);
        due("the last one", Lectures.small(30).plan(1, 1 << 29), FULL);
    }

    /** The text at the fault is refused, and changes nothing. */
    private static void fault(int steps, String text, int want) {
        Twins.refused("\"" + text + "\" behind " + steps, -100 - want,
            () -> Lectures.type(Lectures.small(steps), text), PulledPanels::readPlan);
    }

    private static void taken(int steps, String text, int lastNeeds) {
        PulledPanels x = Lectures.type(Lectures.small(steps), text);
        int want = steps + text.split(";").length;
        due("\"" + text + "\" behind " + steps, x.readPlan(), want);
        due("count(0)", x.count(0), want);
        due("step(" + (want - 1) + ", 1)", x.step(want - 1, 1), lastNeeds);
    }

    private static void promise04EmptyText() {
        Check.part("4: the empty text ends too early");
        fault(0, "", 0);
        fault(29, "", 0);
        fault(30, "", 0);
        Twins.refused("readPlan() of a text that was emptied", -100, () -> {
            PulledPanels x = Lectures.busy();
            x.clearText();
            return x;
        }, PulledPanels::readPlan);
    }

    private static void promise04OneStepOrMore() {
        Check.part("4: one or more steps");
        taken(0, "1", 0);
        taken(0, "4;4", 0);
        taken(3, "2;3;1", 0);
        PulledPanels x = Lectures.type(new PulledPanels(), "4;1;3;2<2");
        due("readPlan()", x.readPlan(), 4);
        int[] lines = {4, 1, 3, 2};
        for (int step = 0; step < 4; step++) {
            due("step(" + step + ", 0)", x.step(step, 0), lines[step]);
            due("step(" + step + ", 1)", x.step(step, 1), step == 3 ? 4 : 0);
        }
    }

    private static void promise04LinesFrom1To4() {
        Check.part("4: lines are a digit from 1 to 4");
        for (char c = 0; c < 128; c++) {
            PulledPanels x = new PulledPanels();
            x.type(c);
            due("readPlan() of the character " + (int) c, x.readPlan(), c >= '1' && c <= '4' ? 1 : -100);
            due("step(0, 0)", x.step(0, 0), c >= '1' && c <= '4' ? c - '0' : UNKNOWN);
        }
        fault(0, "0", 0);
        fault(0, "5", 0);
        fault(1, "4;0", 2);
        fault(1, "4;5", 2);
        fault(0, "11", 1);
    }

    private static void promise04StepsHaveOneMarkBetween() {
        Check.part("4: steps with \";\" between two");
        fault(0, ";", 0);
        fault(0, ";1", 0);
        fault(0, "1;;1", 2);
        fault(0, "1:1", 1);
        fault(0, "1,1", 1);
        fault(0, "1 ;1", 1);
        fault(2, "1<;1", 2);
        fault(2, "1<0,;1", 4);
    }

    private static void promise04NeedsHaveOneMarkBetween() {
        Check.part("4: \"<\" and one or more numbers with \",\" between two");
        taken(2, "1<1", 2);
        taken(2, "1<0,1", 3);
        taken(2, "1<1,0", 3);
        taken(11, "1<10,9,0", (1 << 10) + (1 << 9) + 1);
        fault(2, "1<,0", 2);
        fault(2, "1<0,,1", 4);
        fault(2, "1<0<1", 3);
        fault(2, "1<<1", 2);
        fault(2, "1<0 1", 3);
        fault(2, "1<0.1", 3);
        fault(2, "1=0", 1);
        fault(2, "1>0", 1);
        fault(11, "1<10<1", 4);
        fault(11, "1<1<1", 3);
    }

    private static void promise04EndsTooEarly() {
        Check.part("4: the fault is the length of the text if it ends too early");
        fault(0, "1;", 2);
        fault(0, "1;4;", 4);
        fault(1, "1<", 2);
        fault(1, "1<0,", 4);
        fault(1, "1<0;", 4);
        fault(11, "1<10,", 5);
        fault(11, "1<10;", 5);
        fault(11, "1<1,", 4);
    }

    private static void promise04NoZeroInFront() {
        Check.part("4: without a zero in front unless it is the single digit 0");
        taken(29, "1<0", 1);
        for (char c = '0'; c <= '9'; c++) {
            fault(12, "1<0" + c, 3);
        }
        fault(12, "1<1,00", 5);
    }

    /** The fault of a single step behind so many, which needs a number; -1 if it has none. */
    private static int faultOfNumber(int steps, int number) {
        if (number < steps) {
            return -1;
        }
        boolean firstDigitFits = number >= 10 && number / 10 < steps;
        return firstDigitFits ? 3 : 2;
    }

    private static void promise04NumberLessThanTheStep() {
        Check.part("4: a number of one or two digits, less than that of the step itself");
        for (int steps = 0; steps < 30; steps++) {
            for (int number = 0; number < 100; number++) {
                String text = "1<" + number;
                PulledPanels x = Lectures.type(Lectures.small(steps), text);
                int fault = faultOfNumber(steps, number);
                due("\"" + text + "\" behind " + steps, x.readPlan(), fault < 0 ? steps + 1 : -100 - fault);
                due("step(" + steps + ", 1)", x.step(steps, 1), fault < 0 ? 1 << number : UNKNOWN);
            }
        }
        fault(1, "1<1", 2);
        fault(9, "1<9", 2);
        fault(10, "1<10", 3);
        fault(29, "1<29", 3);
        fault(29, "1<100", 4);
        fault(29, "1<280", 4);
    }

    private static void promise04NumberInTheText() {
        Check.part("4: the steps of the text are planned behind the others");
        taken(0, "1;1<0", 1);
        taken(0, "1;1<0;1<1", 2);
        taken(8, "1;1;1<9", 1 << 9);
        taken(8, "1;1;1;1<10", 1 << 10);
        taken(27, "1;1;1<28", 1 << 28);
        fault(0, "1;1<1", 4);
        fault(8, "1;1<9", 4);
        fault(8, "1;1;1<10", 7);
        fault(27, "1;1;1<29", 7);
    }

    private static void promise04NothingBehindTheMarkOfStepZero() {
        Check.part("4: behind a \"<\" of the step 0 nothing is allowed");
        for (char c = 0; c < 128; c++) {
            PulledPanels x = Lectures.type(new PulledPanels(), "1<");
            x.type(c);
            due("\"1<\" and the character " + (int) c, x.readPlan(), -102);
        }
        fault(0, "1<", 2);
        fault(0, "1<0", 2);
        fault(0, "4<;1", 2);
    }

    private static void promise04FirstFaultIsTold() {
        Check.part("4: the fault is the index of the first character that is not allowed");
        fault(0, "xx", 0);
        fault(0, "1xx;", 1);
        fault(1, "1<1;5", 2);
        fault(1, "1;5;", 2);
        fault(1, "1<0;2<2;x", 6);
        fault(1, "1<0;2<1;x", 8);
    }

    private static void promise04ReadAsThePlanIsNow() {
        Check.part("4: read as the plan is now");
        PulledPanels x = Lectures.type(new PulledPanels(), "1<1");
        due("the step 0", x.readPlan(), -102);
        x.plan(1, 0);
        due("the step 1", x.readPlan(), -102);
        x.plan(1, 0);
        due("the step 2", x.readPlan(), 3);
        x.undo();
        x.undo();
        due("the step 1 again", x.readPlan(), -102);
        x = Lectures.type(Lectures.small(12), "1<12");
        due("the step 12", x.readPlan(), -103);
        x.plan(1, 0);
        due("the step 13", x.readPlan(), 14);
        due("with two digits if it can", x.step(13, 1), 1 << 12);
    }

    private static void promise04TextOf60Characters() {
        Check.part("4: a text of 60 characters");
        String thirty = "1" + ";1".repeat(29);
        due("its length", thirty.length(), 59);
        fault(0, thirty + ";", 60);
        fault(0, thirty + "x", 59);
        fault(0, "1;1" + ";1<0".repeat(14) + ",", 60);
        taken(11, "1;1" + ";4<0".repeat(13) + ";4<10", 1 << 10);
        fault(0, "1;1" + ";4<0".repeat(13) + ";4<17", 59);
    }

    private static void promise04AnyCharacter() {
        Check.part("4: characters far off");
        for (char c : new char[] {0, ' ', 127, 128, 255, 256, 0x131, 0x132, 0x661, 0xff11, 0xffff}) {
            fault(0, String.valueOf(c), 0);
            fault(0, "1" + c, 1);
            fault(3, "1<" + c, 2);
            fault(13, "1<1" + c, 3);
            fault(13, "1<10" + c, 4);
        }
    }

    /** The characters of the string are allowed behind the text, and the others are not. */
    private static void allowed(int steps, String text, String characters) {
        for (char c = 0; c < 256; c++) {
            PulledPanels x = Lectures.type(Lectures.small(steps), text);
            x.type(c);
            // a character that is never allowed tells whether the one before it was
            x.type('x');
            int place = characters.indexOf(c) >= 0 ? text.length() + 1 : text.length();
            due("\"" + text + "\" and " + (int) c + " behind " + steps, x.readPlan(), -100 - place);
        }
    }

    private static void promise04EachCharacterAtEachPlace() {
        Check.part("4: each character at each place");
        allowed(29, "", "1234");
        allowed(29, "2", "<;");
        allowed(29, "2;", "1234");
        allowed(29, "2<", "0123456789");
        allowed(9, "2<", "012345678");
        allowed(1, "2<", "0");
        allowed(0, "2<", "");
        allowed(29, "2<0", ",;");
        allowed(29, "2<1", "0123456789,;");
        allowed(29, "2<2", "012345678,;");
        allowed(29, "2<3", ",;");
        allowed(13, "2<1", "012,;");
        allowed(10, "2<1", ",;");
        allowed(29, "2<10", ",;");
        allowed(29, "2<28", ",;");
        allowed(29, "2<28,", "0123456789");
        allowed(29, "2<28;", "1234");
        allowed(29, "2<28;1<2", "0123456789,;");
    }

    private static void promise04NothingOfAnEarlierText() {
        Check.part("4: nothing is left of a text that was read before");
        PulledPanels x = Lectures.small(2);
        due("with needs", Lectures.read(x, "4<0;4<1,0"), 4);
        due("without", Lectures.read(x, "1;2;3"), 7);
        for (int step = 4; step < 7; step++) {
            due("step(" + step + ", 0)", x.step(step, 0), step - 3);
            due("step(" + step + ", 1)", x.step(step, 1), 0);
        }
        due("a fault", Lectures.read(x, "1<1,2;1<3;5"), -110);
        due("without", Lectures.read(x, "1<0;2"), 9);
        due("step(7, 1)", x.step(7, 1), 1);
        due("step(8, 1)", x.step(8, 1), 0);
    }

    private static void promise04NotMoreThan30Steps() {
        Check.part("4: FULL if there would be more than 30");
        taken(29, "1", 0);
        taken(28, "1;1<28", 1 << 28);
        taken(0, "1" + ";1".repeat(29), 0);
        for (int steps = 1; steps <= 30; steps++) {
            int before = steps;
            String text = "1" + ";1".repeat(30 - steps);
            due("\"" + text + "\" behind " + steps, Lectures.type(Lectures.small(before), text).readPlan(), FULL);
        }
        Twins.refused("one more than 30", FULL, () -> Lectures.type(Lectures.small(30), "1"), PulledPanels::readPlan);
        Twins.refused("two behind 29", FULL, () -> Lectures.type(Lectures.small(29), "1;4<0"), PulledPanels::readPlan);
        Twins.refused("30 behind 1", FULL, () -> Lectures.type(Lectures.small(1), "1" + ";1".repeat(29)),
            PulledPanels::readPlan);
    }

    private static void promise04FaultGoesAheadOfFull() {
        Check.part("4: a fault goes ahead of FULL");
        fault(30, "5", 0);
        fault(30, "1;", 2);
        fault(30, "1<30", 3);
        fault(30, "1;1<31", 5);
        fault(29, "1;1;1<31", 7);
        fault(1, "1" + ";1".repeat(29) + ";", 60);
        due("the number 29 in a 31st step", Lectures.read(Lectures.small(30), "1<29"), FULL);
        due("the number 30 in a 32nd step", Lectures.read(Lectures.small(30), "1;1<30"), FULL);
    }

    private static void promise04TextStays() {
        Check.part("4: the text stays");
        PulledPanels x = Lectures.type(new PulledPanels(), "2;3");
        due("readPlan()", x.readPlan(), 2);
        due("count(15)", x.count(15), 3);
        due("again", x.readPlan(), 4);
        due("step(3, 0)", x.step(3, 0), 3);
        due("behind it", x.type(';'), 4);
        due("a fault", x.readPlan(), -104);
        due("count(15)", x.count(15), 4);
        due("behind it", x.type('4'), 5);
        due("mended", x.readPlan(), 7);
    }
}
