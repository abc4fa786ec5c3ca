import java.util.NoSuchElementException;

/** Promises 2 to 8 and what "Terms" says of cues: a test of its own for each sentence that names a boundary case. */
final class CueEdges {
    private static final Class<IllegalArgumentException> WRONG = IllegalArgumentException.class;
    private static final Class<UnsupportedOperationException> TWICE = UnsupportedOperationException.class;
    private static final Class<IllegalStateException> FULL = IllegalStateException.class;
    private static final Class<NoSuchElementException> NONE = NoSuchElementException.class;
    private static final Class<IndexOutOfBoundsException> INDEX = IndexOutOfBoundsException.class;

    // Numbers of no cue in Stages.busy(): next to those that are there, at the edges, and out of range.
    private static final int[] NOT_IN_BUSY = {1, 9, 11, 19, 21, 29, 31, 99, 0, 100, -1, -10, 266, 65546,
        Integer.MIN_VALUE, Integer.MAX_VALUE};

    static void run(Check check) {
        numbersTaken(check);
        numbersRefused(check);
        timesTaken(check);
        timesRefused(check);
        curves(check);
        withoutChanges(check);
        noBlockWhenAdded(check);
        countAfterAdding(check);
        numberThatIsThere(check);
        sixteenCues(check);
        orderOfAddCue(check);
        removeFirstAndLast(check);
        countAfterRemoving(check);
        removeTheCurrentOne(check);
        removeNoSuchCue(check);
        removedWithAllOfIt(check);
        levelsOfChanges(check);
        levelsRefused(check);
        channelsOfChanges(check);
        noneBefore(check);
        setChangeNoSuchCue(check);
        orderOfSetChange(check);
        removeChangeAnswers(check);
        removeChangeNone(check);
        removeChangeNoChannel(check);
        orderOfRemoveChange(check);
        setBlockTwice(check);
        setBlockNoSuchCue(check);
        trackedFromItsChange(check);
        trackedInABlock(check);
        trackedInTheLowest(check);
        trackedThroughSixteen(check);
        trackedNoSuchCue(check);
        trackedNoChannel(check);
        orderOfTrackedLevel(check);
        countOfCues(check);
    }

    private static void numbersTaken(Check check) {
        check.about(2, "number: the number of the cue, 1 to 99");
        for (int i = 1; i <= 99; i++) {
            int number = i;
            StageConsole x = new StageConsole();
            check.is("number " + number, 1, () -> x.addCue(number, 3, 'l'));
            check.is("it is the cue's number", number, () -> x.go());
        }
    }

    private static void numbersRefused(Check check) {
        check.about(2, "Throws IllegalArgumentException if the number is out of range");
        for (int number : Twins.outside(1, 99)) {
            Twins.refuse(check, "number " + number, WRONG, Stages::busy, x -> x.addCue(number, 3, 'l'));
        }
        Twins.refuse(check, "number 0 as the first", WRONG, Stages::fresh, x -> x.addCue(0, 3, 'l'));
        Twins.refuse(check, "number 100 as the first", WRONG, Stages::fresh, x -> x.addCue(100, 3, 'l'));
    }

    private static void timesTaken(Check check) {
        check.about(2, "ticks: its time, 0 to 40");
        for (int i = 0; i <= 40; i++) {
            int ticks = i;
            StageConsole x = new StageConsole();
            check.is("time " + ticks, 1, () -> x.addCue(5, ticks, 'l'));
            x.setChange(5, 0, 255);
            x.go();
            check.is("it is the cue's time", ticks, () -> x.ticksLeft());
        }
    }

    private static void timesRefused(Check check) {
        check.about(2, "Throws IllegalArgumentException if the time is out of range");
        for (int ticks : Twins.outside(0, 40)) {
            Twins.refuse(check, "time " + ticks, WRONG, Stages::busy, x -> x.addCue(40, ticks, 'l'));
        }
    }

    private static void curves(Check check) {
        check.about(2, "Throws IllegalArgumentException if there is no such curve");
        for (int i = 0; i < 65536; i++) {
            char curve = (char) i;
            StageConsole x = new StageConsole();
            Object due = curve == 'l' || curve == 'q' || curve == 's' ? (Object) 1 : WRONG;
            check.is("curve " + i, due, () -> x.addCue(1, 5, curve));
        }
        for (char curve : new char[] {'k', 'm', 'p', 'r', 't', 'w', 'L', 'Q', 'S', 0, 'l' + 256, 65535}) {
            Twins.refuse(check, "curve " + (int) curve, WRONG, Stages::busy, x -> x.addCue(40, 5, curve));
        }
    }

    private static void withoutChanges(Check check) {
        check.about(2, "Adds a cue without changes");
        StageConsole x = new StageConsole();
        x.addCue(5, 3, 'l');
        for (int i = 0; i < 12; i++) {
            int channel = i;
            check.fails("no change for " + channel, NONE, () -> x.removeChange(5, channel));
            check.is("the first change for " + channel, -1, () -> x.setChange(5, channel, 9));
        }
    }

    private static void noBlockWhenAdded(Check check) {
        check.about(2, "it is none [a block] when it is added");
        StageConsole x = new StageConsole();
        x.addCue(5, 3, 'l');
        check.is("setBlock", false, () -> x.setBlock(5, true));
        x.removeCue(5);
        x.addCue(5, 3, 'l');
        check.is("setBlock of one added again", false, () -> x.setBlock(5, true));
    }

    private static void countAfterAdding(Check check) {
        check.about(2, "Returns the number of cues after the call");
        StageConsole x = new StageConsole();
        for (int i = 1; i <= 16; i++) {
            int count = i;
            check.is("cue " + count, count, () -> x.addCue(100 - count, 0, 'l'));
        }
        x.removeCue(99);
        x.removeCue(84);
        check.is("after two removed", 15, () -> x.addCue(1, 0, 'l'));
    }

    private static void numberThatIsThere(Check check) {
        check.about(2, "Throws UnsupportedOperationException if there is a cue with this number");
        for (int number : new int[] {10, 20, 30}) {
            Twins.refuse(check, "number " + number, TWICE, Stages::busy, x -> x.addCue(number, 0, 's'));
        }
        StageConsole x = new StageConsole();
        x.addCue(1, 0, 'l');
        x.addCue(99, 0, 'l');
        check.fails("number 1", TWICE, () -> x.addCue(1, 0, 'l'));
        check.fails("number 99", TWICE, () -> x.addCue(99, 0, 'l'));
        check.is("number 2", 3, () -> x.addCue(2, 0, 'l'));
        check.is("number 98", 4, () -> x.addCue(98, 0, 'l'));
        x.go();
        x.removeCue(1);
        check.is("the current one's number, as it is removed", 4, () -> x.addCue(1, 0, 'l'));
    }

    private static void sixteenCues(Check check) {
        check.about(2, "Throws IllegalStateException if there are 16 cues");
        for (int number : new int[] {2, 42, 84, 98}) {
            Twins.refuse(check, "number " + number, FULL, Stages::full, x -> x.addCue(number, 5, 'l'));
        }
        StageConsole x = Stages.full();
        x.removeCue(49);
        check.is("a 16th cue", 16, () -> x.addCue(98, 5, 'l'));
        check.fails("a 17th cue", FULL, () -> x.addCue(49, 5, 'l'));
        x.removeCue(98);
        check.is("the removed one again", 16, () -> x.addCue(49, 5, 'l'));
    }

    private static void orderOfAddCue(Check check) {
        check.about(2, "If several exceptions apply, the one that is documented first is thrown");
        Twins.refuse(check, "wrong time, twice", WRONG, Stages::busy, x -> x.addCue(10, 41, 'l'));
        Twins.refuse(check, "wrong curve, twice", WRONG, Stages::busy, x -> x.addCue(10, 5, 'w'));
        Twins.refuse(check, "wrong number, full", WRONG, Stages::full, x -> x.addCue(100, 5, 'l'));
        Twins.refuse(check, "wrong time, full", WRONG, Stages::full, x -> x.addCue(2, -1, 'l'));
        Twins.refuse(check, "wrong curve, full", WRONG, Stages::full, x -> x.addCue(2, 5, 't'));
        Twins.refuse(check, "wrong time, twice, full", WRONG, Stages::full, x -> x.addCue(99, 41, 'l'));
        Twins.refuse(check, "twice, full", TWICE, Stages::full, x -> x.addCue(99, 40, 'l'));
    }

    private static void removeFirstAndLast(Check check) {
        check.about(3, "Removes a cue");
        for (int removed : Stages.FULL_CUES) {
            StageConsole x = Stages.full();
            check.is("removeCue " + removed, 15, () -> x.removeCue(removed));
            for (int number : Stages.FULL_CUES) {
                Object due = number == removed ? NONE : (Object) false;
                check.is("cue " + number + " after it", due, () -> x.setBlock(number, false));
            }
        }
    }

    private static void countAfterRemoving(Check check) {
        check.about(3, "Returns the number of cues after the call");
        StageConsole x = Stages.full();
        for (int i = 0; i < 16; i++) {
            int place = i * 5 % 16;
            check.is("cue after cue", 15 - i, () -> x.removeCue(Stages.FULL_CUES[place]));
        }
        check.is("empty", 0, () -> x.cues());
        check.fails("one more", NONE, () -> x.removeCue(1));
        check.is("the first one again", 1, () -> x.addCue(1, 0, 'l'));
    }

    private static void removeTheCurrentOne(Check check) {
        check.about(3, "If it is the current one, its number stays that of the current cue");
        StageConsole x = Stages.busy();
        check.is("removeCue", 2, () -> x.removeCue(20));
        check.is("currentCue", 20, () -> x.currentCue());
        check.is("go from it", 30, () -> x.go());
        x.addCue(20, 0, 'l');
        x.goTo(20);
        x.removeCue(20);
        check.is("added again", 3, () -> x.addCue(20, 0, 'l'));
        check.is("currentCue is the new one", 20, () -> x.currentCue());
        check.is("go goes above it", 30, () -> x.go());
        x.back();
        x.removeCue(20);
        check.is("back from it", 10, () -> x.back());
        x.removeCue(10);
        x.removeCue(30);
        check.is("currentCue without cues", 10, () -> x.currentCue());
    }

    private static void removeNoSuchCue(Check check) {
        check.about(3, "Throws NoSuchElementException if there is no such cue");
        for (int number : NOT_IN_BUSY) {
            Twins.refuse(check, "number " + number, NONE, Stages::busy, x -> x.removeCue(number));
        }
        Twins.refuse(check, "without cues", NONE, Stages::fresh, x -> x.removeCue(1));
        Twins.refuse(check, "number 0 without cues", NONE, Stages::fresh, x -> x.removeCue(0));
        StageConsole x = Stages.busy();
        x.removeCue(20);
        check.fails("the current one twice", NONE, () -> x.removeCue(20));
    }

    private static void removedWithAllOfIt(Check check) {
        check.about(3, "the tracked level of the channel in the cue with the next lower number");
        StageConsole x = new StageConsole();
        x.addCue(10, 0, 'l');
        x.addCue(20, 0, 'l');
        x.addCue(30, 0, 'l');
        x.setChange(10, 0, 1);
        x.setChange(20, 0, 2);
        check.is("from 20", 2, () -> x.trackedLevel(30, 0));
        x.removeCue(20);
        check.is("20 removed: from 10", 1, () -> x.trackedLevel(30, 0));
        x.addCue(20, 0, 'l');
        check.is("20 added again: from 10 through it", 1, () -> x.trackedLevel(30, 0));
        x.setBlock(20, true);
        check.is("20 a block", 0, () -> x.trackedLevel(30, 0));
        x.removeCue(20);
        check.is("the block removed", 1, () -> x.trackedLevel(30, 0));
        x.removeCue(10);
        check.is("no lower one left", 0, () -> x.trackedLevel(30, 0));
    }

    private static void levelsOfChanges(Check check) {
        check.about(4, "level: the level, 0 to 255");
        StageConsole x = new StageConsole();
        x.addCue(5, 0, 'l');
        int before = -1;
        for (int i = 0; i <= 255; i += i < 250 ? 5 : 1) {
            int level = i;
            int due = before;
            check.is("level " + level + ", the one before", due, () -> x.setChange(5, 3, level));
            check.is("level " + level, level, () -> x.trackedLevel(5, 3));
            before = level;
        }
        check.is("the same again", 255, () -> x.setChange(5, 3, 255));
        check.is("back to 0", 255, () -> x.setChange(5, 3, 0));
    }

    private static void levelsRefused(Check check) {
        check.about(4, "Throws IllegalArgumentException if the level is out of range");
        for (int level : Twins.outside(0, 255)) {
            Twins.refuse(check, "level " + level, WRONG, Stages::busy, x -> x.setChange(20, 2, level));
            Twins.refuse(check, "level " + level + " first", WRONG, Stages::busy, x -> x.setChange(20, 7, level));
        }
    }

    private static void channelsOfChanges(Check check) {
        check.about(4, "Throws IndexOutOfBoundsException if there is no such channel");
        for (int channel : Twins.outside(0, 11)) {
            Twins.refuse(check, "channel " + channel, INDEX, Stages::busy, x -> x.setChange(20, channel, 5));
        }
        StageConsole x = new StageConsole();
        x.addCue(5, 0, 'l');
        for (int i = 0; i < 12; i++) {
            int channel = i;
            check.is("channel " + channel, -1, () -> x.setChange(5, channel, 100 + channel));
        }
        for (int i = 0; i < 12; i++) {
            int channel = i;
            check.is("each its own " + channel, 100 + channel, () -> x.trackedLevel(5, channel));
        }
    }

    private static void noneBefore(Check check) {
        check.about(4, "Returns the level of the change before, or -1 if there was none");
        StageConsole x = new StageConsole();
        x.addCue(5, 0, 'l');
        x.addCue(6, 0, 'l');
        x.setChange(5, 0, 70);
        check.is("a level that tracks is no change", -1, () -> x.setChange(6, 0, 0));
        check.is("a change to 0 is one", 0, () -> x.setChange(6, 0, 70));
        x.removeChange(6, 0);
        check.is("after removeChange", -1, () -> x.setChange(6, 0, 1));
        x.removeCue(6);
        x.addCue(6, 0, 'l');
        check.is("in a cue added again", -1, () -> x.setChange(6, 0, 1));
    }

    private static void setChangeNoSuchCue(Check check) {
        check.about(4, "Throws NoSuchElementException if there is no such cue");
        for (int number : NOT_IN_BUSY) {
            Twins.refuse(check, "number " + number, NONE, Stages::busy, x -> x.setChange(number, 0, 5));
        }
        Twins.refuse(check, "without cues", NONE, Stages::fresh, x -> x.setChange(1, 0, 5));
    }

    private static void orderOfSetChange(Check check) {
        check.about(4, "If several exceptions apply, the one that is documented first is thrown");
        Twins.refuse(check, "no cue, no channel", NONE, Stages::busy, x -> x.setChange(11, 12, 5));
        Twins.refuse(check, "no cue, wrong level", NONE, Stages::busy, x -> x.setChange(11, 0, 256));
        Twins.refuse(check, "no cue, no channel, wrong level", NONE, Stages::busy, x -> x.setChange(11, -1, -1));
        Twins.refuse(check, "no channel, wrong level", INDEX, Stages::busy, x -> x.setChange(10, 12, 256));
        Twins.refuse(check, "no channel below, wrong level", INDEX, Stages::busy, x -> x.setChange(10, -1, -1));
    }

    private static void removeChangeAnswers(Check check) {
        check.about(5, "Returns the level of the change");
        for (int i = 0; i < 12; i++) {
            int channel = i;
            StageConsole x = new StageConsole();
            x.addCue(5, 0, 'l');
            x.addCue(6, 0, 'l');
            x.setChange(5, channel, 40);
            x.setChange(6, channel, channel == 0 ? 0 : 255 - channel + 1);
            check.is("level of " + channel, channel == 0 ? 0 : 256 - channel, () -> x.removeChange(6, channel));
            check.is("it tracks then", 40, () -> x.trackedLevel(6, channel));
            check.is("the other cue keeps its change", 40, () -> x.removeChange(5, channel));
        }
    }

    private static void removeChangeNone(Check check) {
        check.about(5, "Throws NoSuchElementException if there is no such cue, or the cue has no change for it");
        for (int number : NOT_IN_BUSY) {
            Twins.refuse(check, "number " + number, NONE, Stages::busy, x -> x.removeChange(number, 0));
        }
        Twins.refuse(check, "without cues", NONE, Stages::fresh, x -> x.removeChange(1, 0));
        for (int channel : new int[] {2, 3, 10}) {
            Twins.refuse(check, "no change for " + channel, NONE, Stages::busy, x -> x.removeChange(10, channel));
        }
        Twins.refuse(check, "a level that tracks is no change", NONE, Stages::busy, x -> x.removeChange(20, 1));
        StageConsole x = Stages.busy();
        x.removeChange(10, 0);
        check.fails("twice", NONE, () -> x.removeChange(10, 0));
    }

    private static void removeChangeNoChannel(Check check) {
        check.about(5, "Throws IndexOutOfBoundsException if there is no such channel");
        for (int channel : Twins.outside(0, 11)) {
            Twins.refuse(check, "channel " + channel, INDEX, Stages::busy, x -> x.removeChange(10, channel));
        }
    }

    private static void orderOfRemoveChange(Check check) {
        check.about(5, "If several exceptions apply, the one that is documented first is thrown");
        Twins.refuse(check, "no cue, no channel above", NONE, Stages::busy, x -> x.removeChange(11, 12));
        Twins.refuse(check, "no cue, no channel below", NONE, Stages::busy, x -> x.removeChange(0, -1));
    }

    private static void setBlockTwice(Check check) {
        check.about(6, "Returns whether it was one before");
        StageConsole x = new StageConsole();
        x.addCue(5, 0, 'l');
        boolean before = false;
        for (boolean isBlock : new boolean[] {false, true, true, false, false, true, false}) {
            boolean due = before;
            check.is("to " + isBlock, due, () -> x.setBlock(5, isBlock));
            before = isBlock;
        }
        Twins.keep(check, "a block as it is", true, Stages::busy, y -> y.setBlock(30, true));
        Twins.keep(check, "no block as it is", false, Stages::busy, y -> y.setBlock(20, false));
    }

    private static void setBlockNoSuchCue(Check check) {
        check.about(6, "Throws NoSuchElementException if there is no such cue");
        for (int number : NOT_IN_BUSY) {
            Twins.refuse(check, "number " + number, NONE, Stages::busy, x -> x.setBlock(number, true));
            Twins.refuse(check, "number " + number, NONE, Stages::busy, x -> x.setBlock(number, false));
        }
        Twins.refuse(check, "without cues", NONE, Stages::fresh, x -> x.setBlock(1, true));
    }

    private static void trackedFromItsChange(Check check) {
        check.about(7, "The tracked level is the level of its change, if the cue has one for it");
        StageConsole x = new StageConsole();
        x.addCue(5, 0, 'l');
        x.addCue(6, 0, 'l');
        x.setChange(5, 0, 255);
        x.setChange(6, 0, 0);
        check.is("a change to 0 above 255", 0, () -> x.trackedLevel(6, 0));
        x.setBlock(6, true);
        x.setChange(6, 0, 3);
        check.is("a change of a block", 3, () -> x.trackedLevel(6, 0));
        x.setBlock(5, true);
        check.is("a change of a block that is the lowest", 255, () -> x.trackedLevel(5, 0));
    }

    private static void trackedInABlock(Check check) {
        check.about(7, "Otherwise, it is 0 if the cue is a block");
        StageConsole x = new StageConsole();
        x.addCue(5, 0, 'l');
        x.addCue(6, 0, 'l');
        x.addCue(7, 0, 'l');
        x.setChange(5, 0, 50);
        x.setChange(5, 1, 60);
        x.setBlock(6, true);
        x.setChange(6, 1, 61);
        check.is("in the block", 0, () -> x.trackedLevel(6, 0));
        check.is("tracked from the block", 0, () -> x.trackedLevel(7, 0));
        check.is("tracked from the block's change", 61, () -> x.trackedLevel(7, 1));
        check.is("below the block", 50, () -> x.trackedLevel(5, 0));
        x.setBlock(6, false);
        check.is("a block no more", 50, () -> x.trackedLevel(7, 0));
    }

    private static void trackedInTheLowest(Check check) {
        check.about(7, "Otherwise, it is 0 if no cue has a lower number");
        StageConsole x = new StageConsole();
        x.addCue(50, 0, 'l');
        for (int i = 0; i < 12; i++) {
            int channel = i;
            check.is("the only cue, channel " + channel, 0, () -> x.trackedLevel(50, channel));
        }
        x.addCue(51, 0, 'l');
        x.setChange(51, 0, 200);
        check.is("a higher one does not matter", 0, () -> x.trackedLevel(50, 0));
        x.addCue(49, 0, 'l');
        x.setChange(49, 0, 100);
        check.is("a lower one, added later", 100, () -> x.trackedLevel(50, 0));
    }

    private static void trackedThroughSixteen(Check check) {
        check.about(7, "the tracked level of the channel in the cue with the next lower number if not");
        StageConsole x = Stages.full();
        x.setChange(1, 6, 123);
        for (int number : Stages.FULL_CUES) {
            check.is("from the lowest of 16 in " + number, 123, () -> x.trackedLevel(number, 6));
            check.is("the other channels in " + number, 0, () -> x.trackedLevel(number, 5));
        }
        x.setChange(49, 6, 7);
        check.is("below the change", 123, () -> x.trackedLevel(43, 6));
        check.is("above the change", 7, () -> x.trackedLevel(55, 6));
        check.is("the highest", 7, () -> x.trackedLevel(99, 6));
    }

    private static void trackedNoSuchCue(Check check) {
        check.about(7, "Throws NoSuchElementException if there is no such cue");
        for (int number : NOT_IN_BUSY) {
            Twins.refuse(check, "number " + number, NONE, Stages::busy, x -> x.trackedLevel(number, 0));
        }
        Twins.refuse(check, "without cues", NONE, Stages::fresh, x -> x.trackedLevel(1, 0));
    }

    private static void trackedNoChannel(Check check) {
        check.about(7, "Throws IndexOutOfBoundsException if there is no such channel");
        for (int channel : Twins.outside(0, 11)) {
            Twins.refuse(check, "channel " + channel, INDEX, Stages::busy, x -> x.trackedLevel(30, channel));
        }
    }

    private static void orderOfTrackedLevel(Check check) {
        check.about(7, "If several exceptions apply, the one that is documented first is thrown");
        Twins.refuse(check, "no cue, no channel above", NONE, Stages::busy, x -> x.trackedLevel(11, 12));
        Twins.refuse(check, "no cue, no channel below", NONE, Stages::busy, x -> x.trackedLevel(11, -1));
    }

    private static void countOfCues(Check check) {
        check.about(8, "Returns the number of cues");
        StageConsole x = new StageConsole();
        check.is("none", 0, () -> x.cues());
        for (int i = 0; i < 16; i++) {
            int place = i;
            x.addCue(Stages.FULL_CUES[15 - place], 0, 'l');
            check.is("one more", place + 1, () -> x.cues());
        }
        Check.answerOf(() -> x.addCue(98, 0, 'l'));
        check.is("16 at most", 16, () -> x.cues());
        for (int i = 0; i < 16; i++) {
            int place = i;
            x.removeCue(Stages.FULL_CUES[place]);
            check.is("one less", 15 - place, () -> x.cues());
        }
        Twins.keep(check, "asked", 3, Stages::busy, y -> y.cues());
    }
}
