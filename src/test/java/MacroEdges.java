import java.util.NoSuchElementException;

/** Promises 35 to 38 and what "Terms" says of macros: a test for each sentence with a boundary case. */
final class MacroEdges {
    private static final Class<IllegalArgumentException> WRONG = IllegalArgumentException.class;
    private static final Class<IllegalStateException> FULL = IllegalStateException.class;
    private static final Class<NoSuchElementException> NONE = NoSuchElementException.class;
    private static final String LETTERS = "gbtfmpw";

    static void run(Check check) {
        letters(check);
        anyNumbers(check);
        eightSteps(check);
        orderOfAddStep(check);
        countOfSteps(check);
        clearAnswers(check);
        clearKeepsTheRest(check);
        runOfNone(check);
        runOfEight(check);
        oneAfterTheOther(check);
        stepsBehindAFault(check);
        whatWasDoneStays(check);
        faultOfEachStep(check);
        faultedStepChangesNothing(check);
        edgesOfSteps(check);
        withoutMeaning(check);
        stepsStay(check);
        asTheseCalls(check);
        neverRun(check);
        lastRun(check);
    }

    private static void letters(Check check) {
        check.about(35, "Throws IllegalArgumentException if there is no such letter");
        for (int i = 0; i < 65536; i++) {
            char call = (char) i;
            StageConsole x = new StageConsole();
            Object due = LETTERS.indexOf(call) >= 0 ? (Object) 1 : WRONG;
            check.is("letter " + i, due, () -> x.addStep(call, 1, 1));
        }
        for (char call : new char[] {'a', 'c', 'e', 'h', 'i', 'l', 'n', 'o', 'q', 's', 'u', 'v', 'x', 'G', 0, 'g' + 256}) {
            Twins.refuse(check, "letter " + (int) call, WRONG, Stages::busy, x -> x.addStep(call, 1, 1));
        }
    }

    private static void anyNumbers(Check check) {
        check.about(35, "first and second: its numbers, without meaning if the call has none");
        int[] numbers = {Integer.MIN_VALUE, -1, 0, 12, 255, 256, Integer.MAX_VALUE};
        for (int i = 0; i < LETTERS.length(); i++) {
            char call = LETTERS.charAt(i);
            for (int first : numbers) {
                StageConsole x = new StageConsole();
                check.is(call + " " + first, 1, () -> x.addStep(call, first, 0));
                check.is(call + " 0 " + first, 2, () -> x.addStep(call, 0, first));
            }
        }
    }

    private static void eightSteps(Check check) {
        check.about(35, "Throws IllegalStateException if there are 8 steps");
        for (int i = 0; i < LETTERS.length(); i++) {
            char call = LETTERS.charAt(i);
            Twins.refuse(check, "a ninth, " + call, FULL, Stages::full, x -> x.addStep(call, 1, 1));
        }
        StageConsole x = Stages.full();
        x.runMacro();
        check.fails("a run makes no room", FULL, () -> x.addStep('g', 0, 0));
        x.clearMacro();
        check.is("room after clearMacro", 1, () -> x.addStep('g', 0, 0));
    }

    private static void orderOfAddStep(Check check) {
        check.about(35, "If several exceptions apply, the one that is documented first is thrown");
        Twins.refuse(check, "no letter, full", WRONG, Stages::full, x -> x.addStep('x', 1, 1));
        Twins.refuse(check, "letter 0, full", WRONG, Stages::full, x -> x.addStep((char) 0, 1, 1));
    }

    private static void countOfSteps(Check check) {
        check.about(35, "Returns the number of steps after the call");
        StageConsole x = new StageConsole();
        for (int i = 1; i <= 8; i++) {
            int count = i;
            check.is("step " + count, count, () -> x.addStep('b', 0, 0));
        }
    }

    private static void clearAnswers(Check check) {
        check.about(36, "Returns the number of steps that it had");
        for (int i = 0; i <= 8; i++) {
            int count = i;
            StageConsole x = new StageConsole();
            for (int step = 0; step < count; step++) {
                x.addStep('m', step, 0);
            }
            check.is(count + " steps", count, () -> x.clearMacro());
            check.is("none then", 0, () -> x.clearMacro());
            check.is("none is run", 0, () -> x.runMacro());
            check.is("nothing was done", 255, () -> x.setMaster(255));
            check.is("the first again", 1, () -> x.addStep('m', 9, 0));
        }
        Twins.keep(check, "clearMacro of none", 0, Stages::fresh, y -> y.clearMacro());
    }

    private static void clearKeepsTheRest(Check check) {
        check.about(36, "Removes all steps of the macro");
        StageConsole x = Stages.busy();
        check.is("three steps", 3, () -> x.clearMacro());
        check.is("what was done stays", 44, () -> x.level(3));
        check.is("the fault of the last run stays", 'e', () -> x.macroFault());
        x.addStep('m', 7, 0);
        check.is("only the new step", 1, () -> x.runMacro());
        check.is("is run", 7, () -> x.setMaster(255));
    }

    private static void runOfNone(Check check) {
        check.about(37, "Returns the number of steps that were done");
        StageConsole x = new StageConsole();
        check.is("an empty macro", 0, () -> x.runMacro());
        check.is("all steps of it were done", 'n', () -> x.macroFault());
        for (int i = 1; i <= 8; i++) {
            int count = i;
            x.addStep('m', count, 0);
            check.is(count + " steps", count, () -> x.runMacro());
        }
    }

    private static void runOfEight(Check check) {
        check.about(37, "The macro is a list of at most 8 steps");
        StageConsole x = Stages.full();
        check.is("eight steps", 8, () -> x.runMacro());
        for (int i = 0; i < 8; i++) {
            int channel = i;
            check.is("step " + channel, 20 + channel, () -> x.unpark(channel));
        }
        check.is("all were done", 'n', () -> x.macroFault());
    }

    private static void oneAfterTheOther(Check check) {
        check.about(37, "When the macro is run, its steps are done one after the other");
        StageConsole x = Stages.cue(4, 'l', 100);
        x.addStep('m', 128, 0);
        x.addStep('g', 0, 0);
        x.addStep('w', 1, 0);
        x.addStep('m', 255, 0);
        x.addStep('w', 1, 0);
        x.addStep('p', 1, 3);
        x.addStep('w', 1, 0);
        x.addStep('m', 0, 0);
        check.is("eight steps", 8, () -> x.runMacro());
        check.is("each tick under the steps before it", 12L + 50 + 78, () -> x.energy());
    }

    // A macro of eight steps of which the one at a place fails; the others park a channel each.
    private static StageConsole faultAt(int place) {
        StageConsole x = new StageConsole();
        for (int step = 0; step < 8; step++) {
            x.addStep(step == place ? 'g' : 'p', step, 100);
        }
        return x;
    }

    private static void stepsBehindAFault(Check check) {
        check.about(37, "if a step would throw an exception, it and the steps behind it are not done");
        for (int i = 0; i < 8; i++) {
            int place = i;
            StageConsole x = faultAt(place);
            check.is("a fault at " + place, place, () -> x.runMacro());
            check.is("its fault", 'e', () -> x.macroFault());
            for (int j = 0; j < 12; j++) {
                int channel = j;
                check.is("a fault at " + place + ", channel " + channel, channel < place ? 100 : 0,
                    () -> x.level(channel));
            }
        }
    }

    private static void whatWasDoneStays(Check check) {
        check.about(37, "What the steps before it did stays");
        StageConsole x = Stages.cue(4, 'l', 100);
        x.addGroup();
        x.setMember(0, 1, true);
        x.addStep('t', 1, 0);
        x.addStep('w', 2, 0);
        x.addStep('f', 0, 200);
        x.addStep('m', 128, 0);
        x.addStep('p', 11, 7);
        x.addStep('g', 0, 0);
        x.addStep('m', 0, 0);
        check.is("five steps", 5, () -> x.runMacro());
        check.is("its fault", 'e', () -> x.macroFault());
        check.is("the cue", 1, () -> x.currentCue());
        check.is("its fade", 50, () -> x.cueLevel(0));
        check.is("the energy", 75L, () -> x.energy());
        check.is("the source", 0, () -> x.latestSource(1));
        check.is("the fader", 200, () -> x.setFader(0, 200));
        check.is("the master", 128, () -> x.setMaster(255));
        check.is("the parking", 7, () -> x.unpark(11));
        check.is("the time", 3, () -> x.pass(1));
    }

    private static void fault(Check check, char due, char call, int first, int second) {
        String what = "step " + call + " " + first + " " + second;
        StageConsole x = Stages.busy();
        x.clearMacro();
        x.addStep(call, first, second);
        check.is(what, due == 'n' ? 1 : 0, () -> x.runMacro());
        check.is(what + ", its fault", due, () -> x.macroFault());
    }

    private static void faultOfEachStep(Check check) {
        check.about(38, "The fault of a run is 'n' if all steps were done, and otherwise 'i' .., 'a' .., and 'e' ..");
        fault(check, 'n', 'w', 100, 1);
        for (int number : new int[] {1, 9, 11, 19, 21, 29, 31, 99, 0, 100, -1, Integer.MIN_VALUE, Integer.MAX_VALUE}) {
            fault(check, 'e', 't', number, 10);
        }
        for (int group : Twins.outside(0, 1)) {
            fault(check, 'i', 'f', group, 7);
            fault(check, 'i', 'f', group, 256);
            fault(check, 'i', 'f', group, -1);
        }
        for (int level : Twins.outside(0, 255)) {
            fault(check, 'a', 'f', 1, level);
            fault(check, 'a', 'm', level, 7);
            fault(check, 'a', 'p', 11, level);
        }
        for (int channel : Twins.outside(0, 11)) {
            fault(check, 'i', 'p', channel, 7);
            fault(check, 'i', 'p', channel, 256);
            fault(check, 'i', 'p', channel, -1);
        }
        for (int ticks : Twins.outside(1, 100)) {
            fault(check, 'a', 'w', ticks, 1);
        }
        StageConsole none = new StageConsole();
        none.addStep('b', 0, 0);
        check.is("back when none was played", 0, () -> none.runMacro());
        check.is("its fault", 'e', () -> none.macroFault());
        StageConsole fader = new StageConsole();
        fader.addStep('f', 0, 0);
        check.is("a fader when there is no group", 0, () -> fader.runMacro());
        check.is("its fault", 'i', () -> fader.macroFault());
        StageConsole back = Stages.busy();
        back.clearMacro();
        back.addStep('b', 0, 0);
        check.is("back", 1, () -> back.runMacro());
        check.is("back below the lowest", 0, () -> back.runMacro());
        check.is("its fault", 'e', () -> back.macroFault());
    }

    // Two consoles with the same step, of which only one runs it: all but the fault of the run must be the same.
    private static StageConsole withStep(char call, int first, int second, boolean isRun) {
        StageConsole x = Stages.busy();
        x.clearMacro();
        if (!isRun) {
            x.addStep('t', 98, 0);
            x.runMacro();
            x.clearMacro();
        }
        x.addStep(call, first, second);
        if (isRun) {
            x.runMacro();
        }
        return x;
    }

    private static void faultedStepChangesNothing(Check check) {
        check.about(37, "it is not done");
        int[][] steps = {{'t', 11, 0}, {'t', 0, 0}, {'f', 2, 7}, {'f', -1, 7}, {'f', 0, 256}, {'f', 0, -1},
            {'m', 256, 0}, {'m', -1, 0}, {'p', 12, 7}, {'p', -1, 7}, {'p', 4, 256}, {'p', 0, -1}, {'w', 0, 0},
            {'w', 101, 0}};
        for (int[] step : steps) {
            for (int kind = 0; kind < Views.KINDS; kind++) {
                if (kind != Views.READINGS && kind != Views.MACRO) {
                    char call = (char) step[0];
                    check.same("step " + call + " " + step[1] + " " + step[2],
                        Views.of(kind, withStep(call, step[1], step[2], false)),
                        Views.of(kind, withStep(call, step[1], step[2], true)));
                }
            }
        }
    }

    private static void edgesOfSteps(Check check) {
        check.about(37, "each one is a call: 'g' go(), 'b' back(), 't' goTo(first), 'f' setFader(first, second), ..");
        int[][] steps = {{'g', 0, 0}, {'b', 0, 0}, {'t', 10, 0}, {'t', 30, 0}, {'f', 0, 0}, {'f', 0, 255}, {'f', 1, 0},
            {'f', 1, 255}, {'m', 0, 0}, {'m', 255, 0}, {'p', 0, 0}, {'p', 0, 255}, {'p', 11, 0}, {'p', 11, 255},
            {'w', 1, 0}, {'w', 100, 0}};
        for (int[] step : steps) {
            fault(check, 'n', (char) step[0], step[1], step[2]);
        }
    }

    private static void withoutMeaning(Check check) {
        check.about(37, "'g' go(), 'b' back(), 't' goTo(first), 'm' setMaster(first), 'w' pass(first)");
        for (int number : new int[] {Integer.MIN_VALUE, -1, 256, Integer.MAX_VALUE}) {
            fault(check, 'n', 'g', number, number);
            fault(check, 'n', 'b', number, number);
            fault(check, 'n', 't', 10, number);
            fault(check, 'n', 'm', 0, number);
            fault(check, 'n', 'w', 1, number);
        }
    }

    private static void stepsStay(Check check) {
        check.about(37, "Runs the macro");
        StageConsole x = new StageConsole();
        x.addStep('w', 100, 0);
        for (int i = 1; i <= 5; i++) {
            check.is("run " + i, 1, () -> x.runMacro());
        }
        check.is("each run did its step", 501, () -> x.pass(1));
        check.is("the step stays", 1, () -> x.clearMacro());
        StageConsole y = faultAt(3);
        y.runMacro();
        y.addCue(5, 0, 'l');
        check.is("a fault mended", 8, () -> y.runMacro());
        check.is("a fault again", 3, () -> y.runMacro());
        check.is("the steps stay", 8, () -> y.clearMacro());
    }

    private static void asTheseCalls(Check check) {
        check.about(37, "its steps are done as these calls would be");
        int[][] steps = {{'g', 0, 0}, {'b', 0, 0}, {'t', 10, 0}, {'t', 20, 0}, {'f', 0, 0}, {'f', 1, 255}, {'m', 0, 0},
            {'m', 255, 0}, {'p', 4, 0}, {'p', 11, 255}, {'w', 1, 0}, {'w', 100, 0}};
        for (int[] step : steps) {
            for (int kind = 0; kind < Views.KINDS; kind++) {
                StageConsole done = Stages.busy();
                done.clearMacro();
                done.addStep((char) step[0], step[1], step[2]);
                done.runMacro();
                StageConsole called = Stages.busy();
                called.clearMacro();
                called.runMacro();
                call(called, (char) step[0], step[1], step[2]);
                called.addStep((char) step[0], step[1], step[2]);
                check.same("step " + (char) step[0] + " " + step[1] + " " + step[2], Views.of(kind, called),
                    Views.of(kind, done));
            }
        }
    }

    private static void call(StageConsole x, char call, int first, int second) {
        switch (call) {
            case 'g' -> x.go();
            case 'b' -> x.back();
            case 't' -> x.goTo(first);
            case 'f' -> x.setFader(first, second);
            case 'm' -> x.setMaster(first);
            case 'p' -> x.park(first, second);
            default -> x.pass(first);
        }
    }

    private static void neverRun(Check check) {
        check.about(38, "Throws NoSuchElementException if the macro was never run");
        Twins.refuse(check, "without steps", NONE, Stages::fresh, x -> x.macroFault());
        Twins.refuse(check, "with steps", NONE, Stages::full, x -> x.macroFault());
        StageConsole x = Stages.full();
        x.clearMacro();
        check.fails("cleared", NONE, () -> x.macroFault());
    }

    private static void lastRun(Check check) {
        check.about(38, "Returns the fault of the last run of the macro");
        StageConsole x = new StageConsole();
        x.addStep('m', 256, 0);
        x.runMacro();
        check.is("the first run", 'a', () -> x.macroFault());
        check.is("asked again", 'a', () -> x.macroFault());
        Check.answerOf(() -> x.park(12, 0));
        Check.answerOf(() -> x.go());
        check.is("calls outside of it are none of it", 'a', () -> x.macroFault());
        x.clearMacro();
        x.addStep('p', 12, 256);
        check.is("a new step is no run", 'a', () -> x.macroFault());
        x.runMacro();
        check.is("the second run", 'i', () -> x.macroFault());
        x.clearMacro();
        x.addStep('g', 0, 0);
        x.runMacro();
        check.is("the third run", 'e', () -> x.macroFault());
        x.clearMacro();
        x.runMacro();
        check.is("a run of no steps", 'n', () -> x.macroFault());
    }
}
