import java.util.NoSuchElementException;

/** Promises 35 to 38. */
final class MacroTests {
    static void run(Check check) {
        addStep(check);
        clearMacro(check);
        everyCall(check);
        for (int[] row : FAULTS) {
            fault(check, (char) row[0], row[1], row[2], (char) row[3]);
        }
        stopsAtAFault(check);
        lastRun(check);
        usesTheConsole(check);
    }

    // Letter, first, second and fault of a step, where cue 5 is the only one and played, and group 0 is the only one.
    private static final int[][] FAULTS = {
        {'g', 5, 5, 'e'}, {'b', 5, 5, 'e'},
        {'t', 5, -1, 'n'}, {'t', 4, 5, 'e'}, {'t', -1, 5, 'e'}, {'t', 100, 5, 'e'},
        {'f', 0, 0, 'n'}, {'f', 0, 255, 'n'}, {'f', 0, 256, 'a'}, {'f', 0, -1, 'a'},
        {'f', 1, 0, 'i'}, {'f', -1, 0, 'i'}, {'f', 1, 256, 'i'},
        {'m', 0, -1, 'n'}, {'m', 255, 999, 'n'}, {'m', 256, 0, 'a'}, {'m', -1, 0, 'a'},
        {'p', 0, 0, 'n'}, {'p', 11, 255, 'n'}, {'p', 0, 256, 'a'}, {'p', 11, -1, 'a'},
        {'p', 12, 0, 'i'}, {'p', -1, 0, 'i'}, {'p', 12, 256, 'i'},
        {'w', 0, 1, 'a'}, {'w', 101, 1, 'a'}, {'w', Integer.MIN_VALUE, 1, 'a'}, {'w', Integer.MAX_VALUE, 1, 'a'},
    };

    private static void addStep(Check check) {
        StageConsole x = new StageConsole();
        int count = 0;
        for (char call : new char[] {'g', 'b', 't', 'f', 'm', 'p', 'w', 'g'}) {
            count++;
            check.is("addStep " + call, count, () -> x.addStep(call, Integer.MIN_VALUE, Integer.MAX_VALUE));
        }
        check.fails("addStep ninth", IllegalStateException.class, () -> x.addStep('g', 0, 0));
        for (char call : new char[] {'n', 'a', 'e', 'i', 'G', ' ', 0, 'q', 65535}) {
            check.fails("addStep " + (int) call, IllegalArgumentException.class, () -> x.addStep(call, 0, 0));
        }
        check.is("eight steps", 8, () -> x.clearMacro());
        check.fails("addStep wrong", IllegalArgumentException.class, () -> x.addStep('x', 0, 0));
        check.is("a fault adds nothing", 1, () -> x.addStep('w', 1, 0));
    }

    private static void clearMacro(Check check) {
        StageConsole x = new StageConsole();
        check.is("clearMacro of none", 0, () -> x.clearMacro());
        x.addStep('m', 1, 0);
        x.addStep('m', 2, 0);
        check.is("clearMacro", 2, () -> x.clearMacro());
        check.is("clearMacro twice", 0, () -> x.clearMacro());
        check.is("runMacro of none", 0, () -> x.runMacro());
        check.is("nothing was done", 255, () -> x.setMaster(255));
        check.is("its fault", 'n', () -> x.macroFault());
    }

    private static void everyCall(Check check) {
        StageConsole x = new StageConsole();
        x.addCue(1, 0, 'l');
        x.addCue(2, 0, 'l');
        x.addCue(9, 10, 'l');
        x.setChange(2, 0, 40);
        x.setChange(9, 0, 140);
        x.addGroup();
        x.setMember(0, 1, true);
        x.addStep('t', 2, -1);
        x.addStep('b', -1, -1);
        x.addStep('g', -1, -1);
        x.addStep('g', -1, -1);
        x.addStep('f', 0, 30);
        x.addStep('m', 254, -1);
        x.addStep('p', 11, 77);
        x.addStep('w', 5, -1);
        check.fails("never run", NoSuchElementException.class, () -> x.macroFault());
        check.is("runMacro", 8, () -> x.runMacro());
        check.is("macroFault", 'n', () -> x.macroFault());
        check.is("steps play", 9, () -> x.currentCue());
        check.is("steps fade", 90, () -> x.cueLevel(0));
        check.is("the fade goes on", 5, () -> x.ticksLeft());
        check.is("the fader is a source", 0, () -> x.latestSource(1));
        check.is("the master", 29, () -> x.level(1));
        check.is("parked", 77, () -> x.level(11));
        check.is("energy of its ticks", 49L + 59 + 69 + 79 + 89 + 5 * (29 + 77), () -> x.energy());
        check.is("the steps stay", 8, () -> x.clearMacro());
        check.is("the time", 6, () -> x.pass(1));
        check.is("macroFault stays", 'n', () -> x.macroFault());
    }

    private static void fault(Check check, char call, int first, int second, char due) {
        StageConsole x = new StageConsole();
        x.addCue(5, 0, 'l');
        x.addGroup();
        x.go();
        x.addStep(call, first, second);
        x.addStep('w', 1, 0);
        check.is("runMacro " + call + " " + first + " " + second, due == 'n' ? 2 : 0, () -> x.runMacro());
        check.is("macroFault " + call + " " + first + " " + second, due, () -> x.macroFault());
        check.is("steps behind it", due == 'n' ? 2 : 1, () -> x.pass(1));
    }

    private static void stopsAtAFault(Check check) {
        StageConsole x = new StageConsole();
        x.addStep('m', 100, 0);
        x.addStep('g', 0, 0);
        x.addStep('m', 200, 0);
        check.is("runMacro to a fault", 1, () -> x.runMacro());
        check.is("macroFault", 'e', () -> x.macroFault());
        check.is("what was done stays", 100, () -> x.setMaster(255));
        x.addCue(3, 0, 'l');
        check.is("runMacro again", 3, () -> x.runMacro());
        check.is("macroFault again", 'n', () -> x.macroFault());
        check.is("all done", 200, () -> x.setMaster(255));
        check.is("runMacro a third time", 1, () -> x.runMacro());
        check.is("macroFault a third time", 'e', () -> x.macroFault());
        check.is("the steps stay", 3, () -> x.clearMacro());
    }

    private static void lastRun(Check check) {
        StageConsole x = new StageConsole();
        x.addStep('p', 12, 0);
        check.fails("steps, but never run", NoSuchElementException.class, () -> x.macroFault());
        x.runMacro();
        check.is("macroFault", 'i', () -> x.macroFault());
        x.clearMacro();
        check.is("clearing keeps the fault", 'i', () -> x.macroFault());
        check.fails("a fault outside the macro", IllegalArgumentException.class, () -> x.setMaster(256));
        check.is("is no fault of the run", 'i', () -> x.macroFault());
        x.runMacro();
        check.is("the next run", 'n', () -> x.macroFault());
    }

    private static void usesTheConsole(Check check) {
        StageConsole x = new StageConsole();
        x.addStep('f', 0, 50);
        x.addStep('t', 7, 0);
        check.is("no group yet", 0, () -> x.runMacro());
        check.is("no group yet", 'i', () -> x.macroFault());
        x.addGroup();
        check.is("no cue yet", 1, () -> x.runMacro());
        check.is("no cue yet", 'e', () -> x.macroFault());
        x.addCue(7, 0, 's');
        check.is("all there", 2, () -> x.runMacro());
        check.is("the fader", 50, () -> x.setFader(0, 0));
    }
}
