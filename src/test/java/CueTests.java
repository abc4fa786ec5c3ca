import java.util.NoSuchElementException;

/** Promises 2 to 8. */
final class CueTests {
    static void run(Check check) {
        addCue(check);
        addCueOrder(check);
        removeCue(check);
        changes(check);
        removeChange(check);
        blocks(check);
        tracking(check);
    }

    private static void addCue(Check check) {
        StageConsole x = new StageConsole();
        check.is("addCue lowest", 1, () -> x.addCue(1, 0, 'l'));
        check.is("addCue highest", 2, () -> x.addCue(99, 40, 'q'));
        check.is("addCue between", 3, () -> x.addCue(50, 1, 's'));
        check.is("cues", 3, () -> x.cues());
        int[][] wrong = {{0, 1}, {100, 1}, {-1, 1}, {Integer.MIN_VALUE, 1}, {Integer.MAX_VALUE, 1},
            {2, -1}, {2, 41}, {2, Integer.MIN_VALUE}, {2, Integer.MAX_VALUE}};
        for (int[] row : wrong) {
            check.fails("addCue " + row[0] + " " + row[1], IllegalArgumentException.class,
                () -> x.addCue(row[0], row[1], 'l'));
        }
        for (char curve : new char[] {'w', 't', 'L', ' ', 0, 'k', 'm', 'p', 'r', 65535}) {
            check.fails("addCue curve " + (int) curve, IllegalArgumentException.class, () -> x.addCue(2, 1, curve));
        }
        check.is("cues after faults", 3, () -> x.cues());
        check.fails("trackedLevel in a cue not added", NoSuchElementException.class, () -> x.trackedLevel(2, 0));
        check.is("a new cue is no block", false, () -> x.setBlock(50, false));
    }

    private static void addCueOrder(Check check) {
        StageConsole x = new StageConsole();
        for (int i = 1; i <= 16; i++) {
            int number = i;
            check.is("addCue up to 16", number, () -> x.addCue(number, 5, 'l'));
        }
        check.fails("addCue 17th", IllegalStateException.class, () -> x.addCue(17, 5, 'l'));
        check.fails("addCue twice when full", UnsupportedOperationException.class, () -> x.addCue(16, 0, 'q'));
        check.fails("addCue wrong when full", IllegalArgumentException.class, () -> x.addCue(17, 5, 'x'));
        check.fails("addCue twice, wrong time", IllegalArgumentException.class, () -> x.addCue(16, 41, 'l'));
        check.is("cues when full", 16, () -> x.cues());
        check.is("removeCue when full", 15, () -> x.removeCue(8));
        check.is("addCue again", 16, () -> x.addCue(8, 0, 'l'));

        StageConsole y = new StageConsole();
        y.addCue(7, 10, 'l');
        y.setChange(7, 0, 100);
        check.fails("addCue twice", UnsupportedOperationException.class, () -> y.addCue(7, 0, 'q'));
        check.is("addCue twice keeps the change", 100, () -> y.trackedLevel(7, 0));
        y.go();
        check.is("addCue twice keeps the time", 10, () -> y.ticksLeft());
    }

    private static void removeCue(Check check) {
        StageConsole x = new StageConsole();
        check.fails("removeCue of none", NoSuchElementException.class, () -> x.removeCue(1));
        x.addCue(10, 0, 'l');
        x.addCue(20, 0, 'l');
        x.addCue(30, 0, 'l');
        x.setChange(10, 0, 11);
        x.setChange(20, 0, 22);
        for (int number : new int[] {0, 9, 11, 31, -10, Integer.MIN_VALUE, Integer.MAX_VALUE}) {
            check.fails("removeCue " + number, NoSuchElementException.class, () -> x.removeCue(number));
        }
        check.is("tracked through 20", 22, () -> x.trackedLevel(30, 0));
        x.goTo(20);
        check.is("removeCue current", 2, () -> x.removeCue(20));
        check.is("cues", 2, () -> x.cues());
        check.is("the current cue keeps its number", 20, () -> x.currentCue());
        check.is("its cue level stays", 22, () -> x.cueLevel(0));
        check.is("tracked past the removed one", 11, () -> x.trackedLevel(30, 0));
        check.fails("removeCue twice", NoSuchElementException.class, () -> x.removeCue(20));
        check.is("go above a removed one", 30, () -> x.go());
        x.addCue(20, 0, 'l');
        check.is("a cue added again has no change", 11, () -> x.trackedLevel(20, 0));
    }

    private static void changes(Check check) {
        StageConsole x = new StageConsole();
        x.addCue(5, 0, 'l');
        check.is("setChange first", -1, () -> x.setChange(5, 0, 0));
        check.is("setChange second", 0, () -> x.setChange(5, 0, 255));
        check.is("setChange third", 255, () -> x.setChange(5, 0, 7));
        check.is("setChange last channel", -1, () -> x.setChange(5, 11, 9));
        check.is("changes are by channel", 9, () -> x.trackedLevel(5, 11));
        check.is("changes are by channel", 0, () -> x.trackedLevel(5, 10));
        check.fails("setChange no cue", NoSuchElementException.class, () -> x.setChange(6, 0, 1));
        check.fails("setChange no cue first", NoSuchElementException.class, () -> x.setChange(6, 12, 256));
        check.fails("setChange no channel", IndexOutOfBoundsException.class, () -> x.setChange(5, 12, 1));
        check.fails("setChange no channel", IndexOutOfBoundsException.class, () -> x.setChange(5, -1, 1));
        check.fails("setChange no channel first", IndexOutOfBoundsException.class, () -> x.setChange(5, 12, 256));
        check.fails("setChange too high", IllegalArgumentException.class, () -> x.setChange(5, 0, 256));
        check.fails("setChange too low", IllegalArgumentException.class, () -> x.setChange(5, 0, -1));
        check.is("faults change nothing", 7, () -> x.trackedLevel(5, 0));
    }

    private static void removeChange(Check check) {
        StageConsole x = new StageConsole();
        x.addCue(5, 0, 'l');
        x.addCue(6, 0, 'l');
        x.setChange(5, 3, 0);
        x.setChange(6, 3, 80);
        check.is("removeChange", 80, () -> x.removeChange(6, 3));
        check.fails("removeChange twice", NoSuchElementException.class, () -> x.removeChange(6, 3));
        check.is("removeChange of level 0", 0, () -> x.removeChange(5, 3));
        check.fails("removeChange without one", NoSuchElementException.class, () -> x.removeChange(5, 3));
        check.is("setChange after it", -1, () -> x.setChange(5, 3, 4));
        check.fails("removeChange no cue", NoSuchElementException.class, () -> x.removeChange(7, 3));
        check.fails("removeChange no cue, no channel", NoSuchElementException.class, () -> x.removeChange(7, 12));
        check.fails("removeChange no channel", IndexOutOfBoundsException.class, () -> x.removeChange(5, 12));
        check.fails("removeChange no channel", IndexOutOfBoundsException.class, () -> x.removeChange(5, -1));
        check.is("faults change nothing", 4, () -> x.trackedLevel(6, 3));
    }

    private static void blocks(Check check) {
        StageConsole x = new StageConsole();
        x.addCue(5, 0, 'l');
        x.addCue(6, 0, 'l');
        x.setChange(5, 0, 50);
        x.setChange(6, 1, 60);
        check.is("setBlock first", false, () -> x.setBlock(6, true));
        check.is("setBlock second", true, () -> x.setBlock(6, true));
        check.is("a block does not track", 0, () -> x.trackedLevel(6, 0));
        check.is("a block has its changes", 60, () -> x.trackedLevel(6, 1));
        check.is("setBlock off", true, () -> x.setBlock(6, false));
        check.is("setBlock was off", false, () -> x.setBlock(6, false));
        check.is("it tracks again", 50, () -> x.trackedLevel(6, 0));
        check.fails("setBlock no cue", NoSuchElementException.class, () -> x.setBlock(7, true));
    }

    private static void tracking(Check check) {
        StageConsole x = new StageConsole();
        x.addCue(40, 0, 'l');
        x.addCue(10, 0, 'l');
        x.addCue(30, 0, 'l');
        x.addCue(20, 0, 'l');
        check.is("tracked without changes", 0, () -> x.trackedLevel(40, 0));
        x.setChange(10, 0, 10);
        check.is("tracked from the first", 10, () -> x.trackedLevel(40, 0));
        x.setChange(30, 0, 0);
        check.is("a change to 0 is one", 0, () -> x.trackedLevel(40, 0));
        check.is("below it is the first", 10, () -> x.trackedLevel(20, 0));
        x.removeChange(30, 0);
        x.setBlock(20, true);
        check.is("a block on the way", 0, () -> x.trackedLevel(40, 0));
        x.setChange(20, 0, 20);
        check.is("a block's change tracks on", 20, () -> x.trackedLevel(40, 0));
        x.setBlock(10, true);
        check.is("the first as a block", 10, () -> x.trackedLevel(10, 0));
        check.fails("trackedLevel no cue", NoSuchElementException.class, () -> x.trackedLevel(15, 0));
        check.fails("trackedLevel no cue first", NoSuchElementException.class, () -> x.trackedLevel(15, 12));
        check.fails("trackedLevel no channel", IndexOutOfBoundsException.class, () -> x.trackedLevel(10, 12));
        check.fails("trackedLevel no channel", IndexOutOfBoundsException.class, () -> x.trackedLevel(10, -1));
        check.is("last channel", 0, () -> x.trackedLevel(10, 11));
    }
}
