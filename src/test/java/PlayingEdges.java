import java.util.NoSuchElementException;

/** Promises 9 to 15 and what "Terms" says of playing and fades: a test for each sentence with a boundary case. */
final class PlayingEdges {
    private static final Class<IllegalArgumentException> WRONG = IllegalArgumentException.class;
    private static final Class<NoSuchElementException> NONE = NoSuchElementException.class;
    private static final Class<IndexOutOfBoundsException> INDEX = IndexOutOfBoundsException.class;

    static void run(Check check) {
        goFromNone(check);
        goToTheNextAbove(check);
        goRefused(check);
        backToTheNextBelow(check);
        backWhenNoneWasPlayed(check);
        backRefused(check);
        goToCounts(check);
        goToAgain(check);
        goToRefused(check);
        becomesCurrent(check);
        fadeEndsWhereItIs(check);
        nothingToFade(check);
        cuesBecomeTheSource(check);
        timeAndCurveOfThen(check);
        timeZero(check);
        cueChangedLater(check);
        ticksTaken(check);
        ticksRefused(check);
        timeSinceTheBeginning(check);
        currentCueIsZero(check);
        cueLevelAtFirst(check);
        cueLevelNoChannel(check);
        fadesByTheTick(check);
        fadesAtOnce(check);
        roundedTowardZero(check);
        afterTheFade(check);
        ticksLeftNone(check);
        ticksLeftCountsDown(check);
    }

    private static void goFromNone(Check check) {
        check.about(9, "or the first cue if none has been played");
        for (int i = 1; i <= 99; i++) {
            int number = i;
            StageConsole x = new StageConsole();
            x.addCue(99, 0, 'l');
            Check.answerOf(() -> x.addCue(number, 0, 'l'));
            check.is("the first is " + number, number, () -> x.go());
        }
        StageConsole y = Stages.busy();
        y.removeCue(20);
        check.is("one has been played, though it is removed", 30, () -> y.go());
    }

    private static void goToTheNextAbove(Check check) {
        check.about(9, "Plays the cue with the next number above that of the current cue");
        StageConsole x = new StageConsole();
        for (int number : Stages.FULL_CUES) {
            x.addCue(number, 0, 'l');
            x.setChange(number, 0, number);
        }
        for (int number : Stages.FULL_CUES) {
            check.is("go", number, () -> x.go());
            check.is("it is played", number, () -> x.cueLevel(0));
        }
        x.removeCue(1);
        x.addCue(98, 0, 'l');
        x.goTo(85);
        x.removeCue(85);
        x.addCue(86, 0, 'l');
        check.is("from a removed one to a new one next to it", 86, () -> x.go());
        check.is("next", 98, () -> x.go());
        check.is("from 98 to 99", 99, () -> x.go());
    }

    private static void goRefused(Check check) {
        check.about(9, "Throws NoSuchElementException if there is no such cue");
        Twins.refuse(check, "without cues", NONE, Stages::fresh, x -> x.go());
        Twins.refuse(check, "at the highest", NONE, PlayingEdges::atTheHighest, x -> x.go());
        StageConsole x = Stages.full();
        x.goTo(99);
        check.fails("at 99", NONE, () -> x.go());
        x.removeCue(99);
        check.fails("at 99, which is removed", NONE, () -> x.go());
        StageConsole y = Stages.busy();
        y.goTo(30);
        y.removeCue(30);
        check.fails("only lower ones are left", NONE, () -> y.go());
        y.addCue(29, 0, 'l');
        check.fails("a new one just below", NONE, () -> y.go());
        y.addCue(31, 0, 'l');
        check.is("a new one just above", 31, () -> y.go());
        StageConsole z = new StageConsole();
        z.addCue(5, 0, 'l');
        z.removeCue(5);
        check.fails("all removed, none played", NONE, () -> z.go());
    }

    private static StageConsole atTheHighest() {
        StageConsole x = Stages.busy();
        x.go();
        x.pass(1);
        return x;
    }

    private static StageConsole atTheLowest() {
        StageConsole x = Stages.busy();
        x.back();
        x.pass(1);
        return x;
    }

    private static StageConsole notPlayed() {
        StageConsole x = Stages.cue(5, 'l', 100);
        x.addCue(2, 5, 'q');
        return x;
    }

    private static void backToTheNextBelow(Check check) {
        check.about(10, "Plays the cue with the next number below that of the current cue");
        StageConsole x = new StageConsole();
        for (int number : Stages.FULL_CUES) {
            x.addCue(number, 0, 'l');
            x.setChange(number, 0, number);
        }
        x.goTo(99);
        for (int i = 14; i >= 0; i--) {
            int number = Stages.FULL_CUES[i];
            check.is("back", number, () -> x.back());
            check.is("it is played", number, () -> x.cueLevel(0));
        }
        x.removeCue(99);
        x.addCue(2, 0, 'l');
        x.goTo(7);
        x.removeCue(7);
        check.is("from a removed one", 2, () -> x.back());
        check.is("from 2 to 1", 1, () -> x.back());
    }

    private static void backWhenNoneWasPlayed(Check check) {
        check.about(10, "Throws NoSuchElementException if none has been played");
        Twins.refuse(check, "without cues", NONE, Stages::fresh, x -> x.back());
        Twins.refuse(check, "with cues", NONE, PlayingEdges::notPlayed, x -> x.back());
        StageConsole x = notPlayed();
        check.fails("before it", NONE, () -> x.back());
        check.is("go is the first still", 1, () -> x.go());
    }

    private static void backRefused(Check check) {
        check.about(10, "Throws NoSuchElementException if there is no such cue");
        Twins.refuse(check, "at the lowest", NONE, PlayingEdges::atTheLowest, x -> x.back());
        StageConsole x = Stages.busy();
        x.goTo(10);
        x.removeCue(10);
        check.fails("only higher ones are left", NONE, () -> x.back());
        x.addCue(11, 0, 'l');
        check.fails("a new one just above", NONE, () -> x.back());
        x.addCue(9, 0, 'l');
        check.is("a new one just below", 9, () -> x.back());
        StageConsole y = Stages.full();
        y.goTo(1);
        check.fails("at 1", NONE, () -> y.back());
        StageConsole z = Stages.cue(0, 'l', 5);
        z.go();
        check.fails("at the only one", NONE, () -> z.back());
        z.removeCue(1);
        check.fails("no cue at all", NONE, () -> z.back());
    }

    private static void goToCounts(Check check) {
        check.about(11, "Returns the number of channels that have a fade then");
        for (int i = 0; i <= 12; i++) {
            int count = i;
            StageConsole x = new StageConsole();
            x.addCue(1, 1, 'l');
            for (int channel = 0; channel < count; channel++) {
                x.setChange(1, 11 - channel, 1);
            }
            check.is(count + " channels", count, () -> x.goTo(1));
        }
        StageConsole x = Stages.busy();
        check.is("a fade that goes on does not count, but ends", 3, () -> x.goTo(10));
        x.pass(20);
        check.is("all there", 0, () -> x.goTo(10));
    }

    private static void goToAgain(Check check) {
        check.about(11, "Plays a cue");
        StageConsole x = Stages.cue(10, 'l', 100);
        check.is("first", 1, () -> x.goTo(1));
        x.pass(9);
        check.is("in its fade", 1, () -> x.goTo(1));
        check.is("a new fade with the whole time", 10, () -> x.ticksLeft());
        x.pass(5);
        check.is("from 90 to 100", 95, () -> x.cueLevel(0));
        x.pass(5);
        check.is("there", 0, () -> x.goTo(1));
        check.is("no fade", 0, () -> x.ticksLeft());
    }

    private static void goToRefused(Check check) {
        check.about(11, "Throws NoSuchElementException if there is no such cue");
        for (int number : new int[] {1, 9, 11, 19, 21, 29, 31, 99, 0, 100, -1, -20, 276, 65546,
            Integer.MIN_VALUE, Integer.MAX_VALUE}) {
            Twins.refuse(check, "number " + number, NONE, Stages::busy, x -> x.goTo(number));
        }
        Twins.refuse(check, "without cues", NONE, Stages::fresh, x -> x.goTo(1));
        Twins.refuse(check, "number 0 when none has been played", NONE, PlayingEdges::notPlayed, x -> x.goTo(0));
        StageConsole x = Stages.busy();
        x.removeCue(20);
        check.fails("the current one, which is removed", NONE, () -> x.goTo(20));
        check.is("currentCue", 20, () -> x.currentCue());
    }

    private static void becomesCurrent(Check check) {
        check.about(11, "When a cue is played, it becomes the current cue");
        StageConsole x = new StageConsole();
        x.addCue(4, 0, 'l');
        x.addCue(8, 40, 'l');
        check.is("a cue that moves nothing", 0, () -> x.goTo(8));
        check.is("currentCue", 8, () -> x.currentCue());
        check.is("with time 0", 0, () -> x.goTo(4));
        check.is("currentCue", 4, () -> x.currentCue());
        check.is("go from it", 8, () -> x.go());
    }

    private static void fadeEndsWhereItIs(Check check) {
        check.about(11, "a fade that it has ends, and stays where it is");
        StageConsole x = new StageConsole();
        x.addCue(1, 10, 'l');
        x.addCue(2, 10, 'l');
        x.setChange(1, 0, 100);
        x.setChange(2, 0, 50);
        x.goTo(1);
        x.pass(5);
        check.is("it is where the next cue wants it", 0, () -> x.goTo(2));
        check.is("it has no fade", 0, () -> x.ticksLeft());
        x.pass(1);
        check.is("it stays", 50, () -> x.cueLevel(0));
        x.goTo(1);
        x.pass(1);
        x.goTo(2);
        check.is("from where it is", 55, () -> x.cueLevel(0));
        x.pass(9);
        check.is("with the new fade's time", 51, () -> x.cueLevel(0));
        x.pass(1);
        check.is("to the new level", 50, () -> x.cueLevel(0));
    }

    private static void nothingToFade(Check check) {
        check.about(11, "if its cue level is not its tracked level in the cue, a new fade begins");
        for (int level : new int[] {0, 1, 254, 255}) {
            StageConsole x = Stages.cue(0, 'l', level);
            x.addCue(2, 10, 'l');
            x.go();
            check.is("tracked at " + level, 0, () -> x.goTo(2));
            x.setChange(2, 0, level);
            check.is("a change to the level that is there", 0, () -> x.goTo(2));
            int other = level == 255 ? 254 : level + 1;
            x.setChange(2, 0, other);
            check.is("a change by one", 1, () -> x.goTo(2));
        }
    }

    private static void cuesBecomeTheSource(Check check) {
        check.about(11, "and the cues become the latest source of the channel");
        for (int ticks : new int[] {0, 1, 40}) {
            StageConsole x = Stages.fader(9);
            x.addCue(1, ticks, 'l');
            x.addCue(2, ticks, 'l');
            x.setChange(2, 0, 1);
            x.goTo(1);
            check.is("time " + ticks + ", a cue that moves nothing", 0, () -> x.latestSource(0));
            check.fails("time " + ticks + ", a channel without source", NONE, () -> x.latestSource(1));
            x.goTo(2);
            check.is("time " + ticks + ", a cue that moves it", -1, () -> x.latestSource(0));
            x.pass(40);
            x.setFader(0, 9);
            x.goTo(2);
            check.is("time " + ticks + ", where it is already", 0, () -> x.latestSource(0));
        }
    }

    private static void timeAndCurveOfThen(Check check) {
        check.about(11, "with the time and the curve of the cue as they are then");
        StageConsole x = Stages.cue(10, 'l', 100);
        x.removeCue(1);
        x.addCue(1, 4, 'q');
        x.setChange(1, 0, 200);
        x.goTo(1);
        check.is("time", 4, () -> x.ticksLeft());
        x.pass(2);
        check.is("curve", 50, () -> x.cueLevel(0));
        StageConsole y = Stages.cue(10, 'l', 100);
        y.addCue(2, 40, 's');
        y.goTo(2);
        check.is("not the cue of the change, but the one played", 40, () -> y.ticksLeft());
        y.pass(10);
        check.is("its curve", 15, () -> y.cueLevel(0));
    }

    private static void timeZero(Check check) {
        check.about(11, "With a time of 0, the cue level becomes the tracked level at once, and the channel has no fade");
        for (char curve : new char[] {'l', 'q', 's'}) {
            StageConsole x = Stages.cue(0, curve, 255);
            check.is("no fade by " + curve, 0, () -> x.goTo(1));
            check.is("at once by " + curve, 255, () -> x.cueLevel(0));
            check.is("no ticks left by " + curve, 0, () -> x.ticksLeft());
            x.pass(1);
            check.is("it stays by " + curve, 255, () -> x.cueLevel(0));
        }
        StageConsole y = Stages.busy();
        y.addCue(21, 0, 'l');
        y.setChange(21, 0, 7);
        check.is("in the middle of a fade", 0, () -> y.goTo(21));
        check.is("at once", 7, () -> y.cueLevel(0));
        y.pass(1);
        check.is("the fade is over", 7, () -> y.cueLevel(0));
    }

    private static void cueChangedLater(Check check) {
        check.about(11, "A fade goes on as it began when cues are changed or removed later");
        StageConsole[] consoles = new StageConsole[6];
        for (int i = 0; i < 6; i++) {
            consoles[i] = Stages.cue(10, 'l', 100);
            consoles[i].addCue(3, 10, 'l');
            consoles[i].go();
            consoles[i].go();
            consoles[i].back();
            consoles[i].pass(2);
        }
        consoles[0].setChange(1, 0, 200);
        consoles[1].removeChange(1, 0);
        consoles[2].removeCue(1);
        consoles[3].addCue(2, 0, 's');
        consoles[4].setBlock(1, true);
        for (int i = 0; i < 6; i++) {
            StageConsole x = consoles[i];
            check.is("ticks left", 8, () -> x.ticksLeft());
            x.pass(7);
            check.is("the last level but one", 90, () -> x.cueLevel(0));
            x.pass(1);
            check.is("the level at the end", 100, () -> x.cueLevel(0));
        }
    }

    private static void ticksTaken(Check check) {
        check.about(12, "ticks: the number of ticks, 1 to 100");
        StageConsole x = new StageConsole();
        int sum = 0;
        for (int i = 1; i <= 100; i++) {
            int ticks = i;
            sum += ticks;
            check.is("pass " + ticks, sum, () -> x.pass(ticks));
        }
    }

    private static void ticksRefused(Check check) {
        check.about(12, "Throws IllegalArgumentException if the number is out of range");
        for (int ticks : Twins.outside(1, 100)) {
            Twins.refuse(check, "pass " + ticks, WRONG, Stages::busy, x -> x.pass(ticks));
        }
    }

    private static void timeSinceTheBeginning(Check check) {
        check.about(12, "Returns the time after the call, in ticks since the beginning");
        StageConsole x = Stages.busy();
        check.is("cues do not begin it anew", 26, () -> x.pass(1));
        x.go();
        x.stopEffect(0);
        check.is("effects neither", 126, () -> x.pass(100));
        StageConsole y = new StageConsole();
        y.addStep('w', 100, 0);
        y.runMacro();
        check.is("a macro's ticks count", 101, () -> y.pass(1));
    }

    private static void currentCueIsZero(Check check) {
        check.about(13, "Returns its number, or 0 if none has been played");
        StageConsole x = new StageConsole();
        check.is("without cues", 0, () -> x.currentCue());
        x.addCue(1, 0, 'l');
        x.addCue(99, 0, 'l');
        check.is("with cues", 0, () -> x.currentCue());
        Check.answerOf(() -> x.goTo(50));
        Check.answerOf(() -> x.back());
        check.is("after refused ones", 0, () -> x.currentCue());
        x.goTo(99);
        check.is("the highest", 99, () -> x.currentCue());
        x.back();
        check.is("the lowest", 1, () -> x.currentCue());
        x.removeCue(1);
        check.is("removed", 1, () -> x.currentCue());
        Twins.keep(check, "asked", 20, Stages::busy, y -> y.currentCue());
    }

    private static void cueLevelAtFirst(Check check) {
        check.about(14, "Each channel has a cue level, initially 0");
        StageConsole x = Stages.cue(1, 'l', 255);
        x.addGroup();
        x.setMember(0, 1, true);
        x.setFader(0, 200);
        x.park(2, 100);
        for (int i = 0; i < 12; i++) {
            int channel = i;
            check.is("channel " + channel, 0, () -> x.cueLevel(channel));
        }
    }

    private static void cueLevelNoChannel(Check check) {
        check.about(14, "Throws IndexOutOfBoundsException if there is no such channel");
        for (int channel : Twins.outside(0, 11)) {
            Twins.refuse(check, "channel " + channel, INDEX, Stages::busy, x -> x.cueLevel(channel));
        }
        StageConsole x = new StageConsole();
        x.addCue(1, 0, 'l');
        x.setChange(1, 0, 10);
        x.setChange(1, 11, 21);
        x.go();
        check.is("channel 0", 10, () -> x.cueLevel(0));
        check.is("channel 11", 21, () -> x.cueLevel(11));
    }

    // What the document says, with the difference as a size, so that rounding toward 0 is rounding down.
    private static int dueLevel(char curve, int from, int to, int n, int time) {
        if (n >= time) {
            return to;
        }
        long size = Math.abs(to - from);
        long t = time;
        long part = curve == 'l' ? size * n / t
            : curve == 'q' ? size * n * n / (t * t)
            : size * (3L * n * n * t - 2L * n * n * n) / (t * t * t);
        return (int) (to > from ? from + part : from - part);
    }

    private static StageConsole fade(char curve, int from, int to, int time) {
        StageConsole x = Stages.cue(0, 'l', from);
        x.addCue(2, time, curve);
        x.setChange(2, 0, to);
        x.go();
        x.go();
        return x;
    }

    private static void fadesByTheTick(Check check) {
        check.about(14, "After n ticks of a fade with a time of T ticks, n less than T; after T ticks, the tracked level");
        int[][] ends = {{0, 255}, {255, 0}, {0, 1}, {1, 0}, {254, 255}, {200, 17}, {3, 101}};
        for (char curve : new char[] {'l', 'q', 's'}) {
            for (int time = 1; time <= 40; time++) {
                for (int[] end : ends) {
                    StageConsole x = fade(curve, end[0], end[1], time);
                    check.is("0 ticks", end[0], () -> x.cueLevel(0));
                    for (int n = 1; n <= time + 1; n++) {
                        x.pass(1);
                        check.is(curve + " from " + end[0] + " to " + end[1] + ", " + n + " of " + time,
                            dueLevel(curve, end[0], end[1], n, time), () -> x.cueLevel(0));
                    }
                }
            }
        }
    }

    private static void fadesAtOnce(Check check) {
        check.about(14, "After T ticks, it is the tracked level, and the fade has ended");
        for (char curve : new char[] {'l', 'q', 's'}) {
            for (int time : new int[] {1, 2, 39, 40}) {
                for (int ticks : new int[] {time - 1, time, time + 1, 100}) {
                    StageConsole x = fade(curve, 10, 250, time);
                    Check.answerOf(() -> x.pass(ticks));
                    String what = curve + ", " + ticks + " of " + time + " ticks at once";
                    check.is(what, dueLevel(curve, 10, 250, ticks, time), () -> x.cueLevel(0));
                    check.is(what + ", left", Math.max(0, time - ticks), () -> x.ticksLeft());
                }
            }
        }
    }

    private static void roundedTowardZero(Check check) {
        check.about(14, "this product rounded toward 0");
        StageConsole up = fade('l', 0, 2, 3);
        up.pass(1);
        check.is("2/3 up", 0, () -> up.cueLevel(0));
        up.pass(1);
        check.is("4/3 up", 1, () -> up.cueLevel(0));
        StageConsole down = fade('l', 2, 0, 3);
        down.pass(1);
        check.is("2/3 down", 2, () -> down.cueLevel(0));
        down.pass(1);
        check.is("4/3 down", 1, () -> down.cueLevel(0));
        StageConsole square = fade('q', 255, 0, 40);
        square.pass(1);
        check.is("255/1600 down by q", 255, () -> square.cueLevel(0));
        StageConsole smooth = fade('s', 255, 0, 40);
        smooth.pass(1);
        check.is("255 * 118/64000 down by s", 255, () -> smooth.cueLevel(0));
        smooth.pass(38);
        check.is("255 * 63882/64000 down by s", 1, () -> smooth.cueLevel(0));
    }

    private static void afterTheFade(Check check) {
        check.about(14, "and the fade has ended");
        StageConsole x = fade('q', 0, 255, 40);
        x.setChange(2, 0, 7);
        x.pass(40);
        check.is("the level of its begin", 255, () -> x.cueLevel(0));
        x.pass(100);
        check.is("long after it", 255, () -> x.cueLevel(0));
        check.is("a new fade begins with its own ticks", 1, () -> x.goTo(2));
        check.is("all of them", 40, () -> x.ticksLeft());
        check.is("from where it is", 255, () -> x.cueLevel(0));
        x.pass(20);
        check.is("in the middle", 193, () -> x.cueLevel(0));
    }

    private static void ticksLeftNone(Check check) {
        check.about(15, "Returns the number of ticks, 0 if there are no fades");
        StageConsole x = new StageConsole();
        check.is("without cues", 0, () -> x.ticksLeft());
        x.addCue(1, 40, 'l');
        x.go();
        check.is("a cue that moves nothing", 0, () -> x.ticksLeft());
        x.pass(100);
        check.is("after ticks", 0, () -> x.ticksLeft());
        Twins.keep(check, "asked", 6, Stages::busy, y -> y.ticksLeft());
    }

    private static void ticksLeftCountsDown(Check check) {
        check.about(15, "Returns after how many ticks all fades have ended");
        for (int i = 0; i < 12; i++) {
            int channel = i;
            StageConsole x = new StageConsole();
            x.addCue(1, 40, 'l');
            x.setChange(1, channel, 1);
            x.go();
            for (int left = 40; left > 0; left--) {
                check.is("channel " + channel, left, () -> x.ticksLeft());
                x.pass(1);
            }
            check.is("channel " + channel, 0, () -> x.ticksLeft());
        }
        StageConsole x = Stages.cue(40, 'l', 9);
        x.addCue(2, 1, 'l');
        x.go();
        x.go();
        check.is("the new fade's ticks, not the longer ones of the old one", 1, () -> x.ticksLeft());
    }
}
