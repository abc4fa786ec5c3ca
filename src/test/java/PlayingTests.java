import java.util.NoSuchElementException;

/** Promises 9 to 15. */
final class PlayingTests {
    static void run(Check check) {
        goAndBack(check);
        goTo(check);
        passing(check);
        curves(check);
        newFadeFromTheMiddle(check);
        fadesGoOnAsTheyBegan(check);
        ticksLeft(check);
    }

    private static void goAndBack(Check check) {
        StageConsole x = new StageConsole();
        check.fails("go without cues", NoSuchElementException.class, () -> x.go());
        check.fails("back without cues", NoSuchElementException.class, () -> x.back());
        x.addCue(20, 0, 'l');
        x.addCue(10, 0, 'l');
        x.addCue(99, 0, 'l');
        check.fails("back when none was played", NoSuchElementException.class, () -> x.back());
        check.is("currentCue at first", 0, () -> x.currentCue());
        check.is("go first", 10, () -> x.go());
        check.is("go next", 20, () -> x.go());
        check.is("currentCue", 20, () -> x.currentCue());
        check.is("back", 10, () -> x.back());
        check.fails("back below the first", NoSuchElementException.class, () -> x.back());
        check.is("currentCue stays", 10, () -> x.currentCue());
        x.go();
        check.is("go last", 99, () -> x.go());
        check.fails("go above the last", NoSuchElementException.class, () -> x.go());
        check.is("currentCue stays", 99, () -> x.currentCue());
        x.removeCue(99);
        check.is("back from a removed one", 20, () -> x.back());
        x.removeCue(10);
        x.removeCue(20);
        check.fails("back without cues", NoSuchElementException.class, () -> x.back());
        check.fails("go without cues", NoSuchElementException.class, () -> x.go());
        x.addCue(19, 0, 'l');
        check.fails("go, with a lower one", NoSuchElementException.class, () -> x.go());
        check.is("back to a new one", 19, () -> x.back());
    }

    private static void goTo(Check check) {
        StageConsole x = new StageConsole();
        x.addCue(1, 10, 'l');
        x.addCue(2, 0, 'l');
        x.addCue(3, 5, 'l');
        x.setChange(1, 0, 100);
        x.setChange(1, 11, 50);
        x.setChange(2, 0, 30);
        x.setChange(3, 0, 30);
        x.setChange(3, 5, 1);
        check.fails("goTo no cue", NoSuchElementException.class, () -> x.goTo(4));
        check.fails("goTo no cue", NoSuchElementException.class, () -> x.goTo(0));
        check.is("a fault plays nothing", 0, () -> x.currentCue());
        check.is("goTo with two fades", 2, () -> x.goTo(1));
        check.is("a fade begins where it is", 0, () -> x.cueLevel(0));
        check.is("goTo with time 0", 0, () -> x.goTo(2));
        check.is("at once", 30, () -> x.cueLevel(0));
        check.is("at once, tracked", 50, () -> x.cueLevel(11));
        check.is("no fades", 0, () -> x.ticksLeft());
        check.is("goTo, one channel differs", 1, () -> x.goTo(3));
        check.is("currentCue", 3, () -> x.currentCue());
        check.is("goTo again goes on with one fade", 1, () -> x.goTo(3));
        x.pass(5);
        check.is("goTo when all is there", 0, () -> x.goTo(3));
        check.is("played again", 3, () -> x.currentCue());
        x.addCue(4, 1, 'l');
        x.setChange(4, 8, 1);
        check.is("a fade of one tick", 1, () -> x.goTo(4));
        x.setBlock(4, true);
        check.is("a block fades all else to 0", 4, () -> x.goTo(4));
        x.pass(1);
        check.is("all there after a tick", 0, () -> x.goTo(4));
    }

    private static void passing(Check check) {
        StageConsole x = new StageConsole();
        check.is("pass 1", 1, () -> x.pass(1));
        check.is("pass 100", 101, () -> x.pass(100));
        for (int ticks : new int[] {0, -1, 101, Integer.MIN_VALUE, Integer.MAX_VALUE}) {
            check.fails("pass " + ticks, IllegalArgumentException.class, () -> x.pass(ticks));
        }
        check.is("faults let no time pass", 102, () -> x.pass(1));
        check.fails("cueLevel no channel", IndexOutOfBoundsException.class, () -> x.cueLevel(12));
        check.fails("cueLevel no channel", IndexOutOfBoundsException.class, () -> x.cueLevel(-1));
    }

    private static void curves(Check check) {
        levels(check, 'l', 7, 100, new int[] {14, 28, 42, 57, 71, 85, 100, 100});
        levels(check, 'q', 7, 100, new int[] {2, 8, 18, 32, 51, 73, 100, 100});
        levels(check, 's', 7, 100, new int[] {5, 19, 39, 60, 80, 94, 100, 100});
        levels(check, 'l', 1, 255, new int[] {255, 255});
        levels(check, 'q', 2, 255, new int[] {63, 255});
        levels(check, 's', 3, 1, new int[] {0, 0, 1});
        falling(check, 'l', 7, 100, new int[] {86, 72, 58, 43, 29, 15, 0, 0});
        falling(check, 'q', 7, 100, new int[] {98, 92, 82, 68, 49, 27, 0, 0});
        falling(check, 's', 7, 100, new int[] {95, 81, 61, 40, 20, 6, 0, 0});
        longest(check, 'l', 248);
        longest(check, 'q', 242);
        longest(check, 's', 254);
    }

    private static void levels(Check check, char curve, int ticks, int top, int[] due) {
        StageConsole x = new StageConsole();
        x.addCue(1, ticks, curve);
        x.setChange(1, 4, top);
        x.go();
        for (int level : due) {
            x.pass(1);
            check.is("rising " + curve + " over " + ticks, level, () -> x.cueLevel(4));
        }
    }

    private static void falling(Check check, char curve, int ticks, int top, int[] due) {
        StageConsole x = new StageConsole();
        x.addCue(1, 0, 'l');
        x.setChange(1, 4, top);
        x.addCue(2, ticks, curve);
        x.setChange(2, 4, 0);
        x.go();
        x.go();
        for (int level : due) {
            x.pass(1);
            check.is("falling " + curve + " over " + ticks, level, () -> x.cueLevel(4));
        }
    }

    private static void longest(Check check, char curve, int due) {
        StageConsole x = new StageConsole();
        x.addCue(1, 40, curve);
        x.setChange(1, 0, 255);
        x.go();
        x.pass(39);
        check.is("last tick but one of " + curve, due, () -> x.cueLevel(0));
        check.is("it still fades", 1, () -> x.ticksLeft());
        x.pass(1);
        check.is("last tick of " + curve, 255, () -> x.cueLevel(0));
        check.is("it has ended", 0, () -> x.ticksLeft());
    }

    private static void newFadeFromTheMiddle(Check check) {
        StageConsole x = new StageConsole();
        x.addCue(1, 10, 'l');
        x.addCue(2, 4, 'q');
        x.setChange(1, 0, 100);
        x.setChange(1, 1, 100);
        x.setChange(2, 0, 0);
        x.setChange(2, 1, 50);
        x.go();
        x.pass(5);
        check.is("goTo from the middle", 1, () -> x.goTo(2));
        check.is("the other fade ends where it is", 50, () -> x.cueLevel(1));
        x.pass(2);
        check.is("from 50 by 'q'", 38, () -> x.cueLevel(0));
        check.is("it stays", 50, () -> x.cueLevel(1));
        x.pass(2);
        check.is("at the end", 0, () -> x.cueLevel(0));
        x.back();
        x.pass(3);
        check.is("back fades with the time of the lower cue", 30, () -> x.cueLevel(0));
        check.is("from 50 to 100", 65, () -> x.cueLevel(1));
    }

    private static void fadesGoOnAsTheyBegan(Check check) {
        StageConsole x = new StageConsole();
        x.addCue(1, 10, 'l');
        x.setChange(1, 0, 100);
        x.go();
        x.setChange(1, 0, 200);
        x.pass(5);
        check.is("a change later", 50, () -> x.cueLevel(0));
        x.removeCue(1);
        x.addCue(1, 2, 'q');
        x.pass(4);
        check.is("the cue removed and added", 90, () -> x.cueLevel(0));
        x.pass(1);
        check.is("to the old level", 100, () -> x.cueLevel(0));
        x.setChange(1, 0, 200);
        check.is("a change moves nothing", 100, () -> x.cueLevel(0));
        check.is("played again it fades", 1, () -> x.goTo(1));
        x.pass(1);
        check.is("with the time and curve of then", 125, () -> x.cueLevel(0));
    }

    private static void ticksLeft(Check check) {
        StageConsole x = new StageConsole();
        x.addCue(1, 40, 'l');
        x.addCue(2, 3, 'l');
        x.setChange(1, 11, 9);
        check.is("no fade, none played", 0, () -> x.ticksLeft());
        x.go();
        check.is("all of it", 40, () -> x.ticksLeft());
        x.pass(39);
        check.is("one is left", 1, () -> x.ticksLeft());
        x.go();
        check.is("a new fade", 3, () -> x.ticksLeft());
        x.pass(100);
        check.is("long past it", 0, () -> x.ticksLeft());
        check.is("the level holds", 9, () -> x.cueLevel(11));
    }
}
