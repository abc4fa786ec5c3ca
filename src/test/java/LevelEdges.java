import java.util.NoSuchElementException;

/** Promises 26 to 34 and what "Terms" says of levels: a test for each sentence with a boundary case. */
final class LevelEdges {
    private static final Class<IllegalArgumentException> WRONG = IllegalArgumentException.class;
    private static final Class<NoSuchElementException> NONE = NoSuchElementException.class;
    private static final Class<IndexOutOfBoundsException> INDEX = IndexOutOfBoundsException.class;

    static void run(Check check) {
        parkLevels(check);
        parkBefore(check);
        parkNoChannel(check);
        parkWrongLevel(check);
        orderOfPark(check);
        unparkAnswers(check);
        unparkNoChannel(check);
        unparkNotParked(check);
        masterLevels(check);
        masterRefused(check);
        masterAtFirst(check);
        levelNoChannel(check);
        levelOfParked(check);
        atMost255(check);
        sumOfAllEffects(check);
        timesTheMaster(check);
        anewForEachCall(check);
        aloneNoChannel(check);
        aloneTheSame(check);
        rankRefused(check);
        equalLevels(check);
        descendingOrder(check);
        energyAtFirst(check);
        energyAtTheEndOfEachTick(check);
        energyOfAllChannels(check);
        shareOfNone(check);
        shareAboveZero(check);
        shareAsFloat(check);
        meanOfAll(check);
        meanOfNotParked(check);
        meanWhenAllAreParked(check);
    }

    private static void bothLevels(Check check, String what, int due, StageConsole x, int channel) {
        check.is(what + " (level)", due, () -> x.level(channel));
        check.is(what + " (levelAlone)", due, () -> x.levelAlone(channel));
    }

    private static void parkLevels(Check check) {
        check.about(26, "level: the level, 0 to 255");
        StageConsole x = new StageConsole();
        for (int i = 0; i <= 255; i += i < 250 ? 5 : 1) {
            int level = i;
            int before = i == 0 ? -1 : i <= 250 ? i - 5 : i - 1;
            check.is("park at " + level + ", the one before", before, () -> x.park(0, level));
            bothLevels(check, "parked at " + level, level, x, 0);
        }
        check.is("down to 0", 255, () -> x.park(0, 0));
        bothLevels(check, "down to 0", 0, x, 0);
    }

    private static void parkBefore(Check check) {
        check.about(26, "Returns the level at which it was parked before, or -1 if it was not parked");
        StageConsole x = new StageConsole();
        for (int i = 0; i < 12; i++) {
            int channel = i;
            check.is("not parked, channel " + channel, -1, () -> x.park(channel, channel));
            check.is("parked, channel " + channel, channel, () -> x.park(channel, 0));
            check.is("parked at 0, channel " + channel, 0, () -> x.park(channel, 0));
            x.unpark(channel);
            check.is("unparked, channel " + channel, -1, () -> x.park(channel, 255));
        }
        Twins.keep(check, "parked as it is", 33, Stages::busy, y -> y.park(4, 33));
    }

    private static void parkNoChannel(Check check) {
        check.about(26, "Throws IndexOutOfBoundsException if there is no such channel");
        for (int channel : Twins.outside(0, 11)) {
            Twins.refuse(check, "channel " + channel, INDEX, Stages::busy, x -> x.park(channel, 7));
        }
    }

    private static void parkWrongLevel(Check check) {
        check.about(26, "Throws IllegalArgumentException if the level is out of range");
        for (int level : Twins.outside(0, 255)) {
            Twins.refuse(check, "parked, to " + level, WRONG, Stages::busy, x -> x.park(4, level));
            Twins.refuse(check, "not parked, to " + level, WRONG, Stages::busy, x -> x.park(0, level));
        }
    }

    private static void orderOfPark(Check check) {
        check.about(26, "If several exceptions apply, the one that is documented first is thrown");
        Twins.refuse(check, "no channel above, too high", INDEX, Stages::busy, x -> x.park(12, 256));
        Twins.refuse(check, "no channel below, too low", INDEX, Stages::busy, x -> x.park(-1, -1));
    }

    private static void unparkAnswers(Check check) {
        check.about(27, "Returns the level at which it was parked");
        for (int i = 0; i < 12; i++) {
            int channel = i;
            for (int level : new int[] {0, 1, 254, 255}) {
                StageConsole x = Stages.parked();
                x.park(channel, level);
                check.is("channel " + channel, level, () -> x.unpark(channel));
                bothLevels(check, "not parked then", 0, x, channel);
                int other = (channel + 1) % 12;
                check.is("the others stay parked", 20 + other, () -> x.unpark(other));
            }
        }
    }

    private static void unparkNoChannel(Check check) {
        check.about(27, "Throws IndexOutOfBoundsException if there is no such channel");
        for (int channel : Twins.outside(0, 11)) {
            Twins.refuse(check, "channel " + channel, INDEX, Stages::busy, x -> x.unpark(channel));
        }
    }

    private static void unparkNotParked(Check check) {
        check.about(27, "Throws NoSuchElementException if it is not parked");
        Twins.refuse(check, "channel 0", NONE, Stages::busy, x -> x.unpark(0));
        Twins.refuse(check, "channel 11", NONE, Stages::busy, x -> x.unpark(11));
        for (int i = 0; i < 12; i++) {
            int channel = i;
            StageConsole x = Stages.parked();
            x.unpark(channel);
            check.fails("twice, channel " + channel, NONE, () -> x.unpark(channel));
            check.fails("never, channel " + channel, NONE, () -> new StageConsole().unpark(channel));
        }
    }

    private static void masterLevels(Check check) {
        check.about(28, "level: the level, 0 to 255");
        StageConsole x = Stages.fader(255);
        for (int i = 0; i <= 255; i += i < 250 ? 5 : 1) {
            int level = i;
            int before = i == 0 ? 255 : i <= 250 ? i - 5 : i - 1;
            check.is("to " + level + ", the one before", before, () -> x.setMaster(level));
            bothLevels(check, "master " + level, level, x, 0);
        }
        check.is("the same again", 255, () -> x.setMaster(255));
    }

    private static void masterRefused(Check check) {
        check.about(28, "Throws IllegalArgumentException if the level is out of range");
        for (int level : Twins.outside(0, 255)) {
            Twins.refuse(check, "to " + level, WRONG, Stages::busy, x -> x.setMaster(level));
        }
        Twins.refuse(check, "to 256 at first", WRONG, Stages::fresh, x -> x.setMaster(256));
        Twins.refuse(check, "to -1 at first", WRONG, Stages::fresh, x -> x.setMaster(-1));
    }

    private static void masterAtFirst(Check check) {
        check.about(28, "The master goes from 0 to 255 and is initially 255");
        StageConsole x = Stages.fader(254);
        bothLevels(check, "all of it", 254, x, 0);
        check.is("setMaster", 255, () -> x.setMaster(0));
        bothLevels(check, "nothing of it", 0, x, 0);
    }

    private static void levelNoChannel(Check check) {
        check.about(29, "Throws IndexOutOfBoundsException if there is no such channel");
        for (int channel : Twins.outside(0, 11)) {
            Twins.refuse(check, "channel " + channel, INDEX, Stages::busy, x -> x.level(channel));
        }
        StageConsole x = Stages.parked();
        for (int i = 0; i < 12; i++) {
            int channel = i;
            check.is("channel " + channel, 20 + channel, () -> x.level(channel));
        }
        Twins.keep(check, "asked", 33, Stages::busy, y -> y.level(4));
    }

    private static void levelOfParked(Check check) {
        check.about(29, "The level of a channel that is parked is the level at which it is parked");
        StageConsole x = Stages.effect('q', 40, 255, 0, 12);
        x.setFader(0, 255);
        for (int level : new int[] {0, 1, 128, 255}) {
            x.park(3, level);
            for (int master : new int[] {0, 1, 128, 255}) {
                x.setMaster(master);
                bothLevels(check, "parked at " + level + ", master " + master, level, x, 3);
                bothLevels(check, "not parked, master " + master, master, x, 4);
            }
        }
    }

    private static void atMost255(Check check) {
        check.about(29, "its base level plus what all effects that run give to it, at most 255, times the master");
        int[][] rows = {{155, 100, 255}, {154, 100, 254}, {156, 100, 255}, {255, 255, 255}, {255, 1, 255}, {0, 255, 255},
            {254, 1, 255}, {253, 1, 254}};
        for (int[] row : rows) {
            StageConsole x = Stages.effect('q', 40, row[1], 0, 1);
            x.setFader(0, row[0]);
            bothLevels(check, row[0] + " plus " + row[1], row[2], x, 0);
            x.setMaster(128);
            bothLevels(check, row[0] + " plus " + row[1] + " under 128", row[2] * 128 / 255, x, 0);
            x.setMaster(1);
            bothLevels(check, row[0] + " plus " + row[1] + " under 1", row[2] / 255, x, 0);
            check.is("the base level is not cut", row[0], () -> x.baseLevel(0));
        }
    }

    private static void sumOfAllEffects(Check check) {
        check.about(29, "its base level plus what all effects that run give to it");
        StageConsole x = new StageConsole();
        x.addGroup();
        x.addGroup();
        x.setMember(0, 11, true);
        x.setMember(1, 11, true);
        x.setMember(1, 0, true);
        for (int effect = 0; effect < 4; effect++) {
            x.addEffect(effect % 2, 'q', 40, 10 << effect, 0);
        }
        x.setFader(0, 5);
        for (int mask = 0; mask < 16; mask++) {
            int even = 10 * (mask & 5);
            int odd = 10 * (mask & 10);
            for (int effect = 0; effect < 4; effect++) {
                int number = effect;
                Check.answerOf(() -> x.stopEffect(number));
                if ((mask >> effect & 1) == 1) {
                    x.startEffect(effect);
                }
            }
            bothLevels(check, "effects " + mask + ", in both groups", 5 + even + odd, x, 11);
            bothLevels(check, "effects " + mask + ", in one group", odd, x, 0);
            bothLevels(check, "effects " + mask + ", in none", 0, x, 5);
        }
        StageConsole four = Stages.full();
        for (int effect = 0; effect < 4; effect++) {
            four.stopEffect(effect);
        }
        check.is("none runs", 13, () -> four.level(5));
    }

    private static void timesTheMaster(Check check) {
        check.about(29, "times the master, divided by 255, rounded down");
        for (int master : new int[] {0, 1, 2, 127, 128, 200, 253, 254, 255}) {
            for (int half = 0; half < 2; half++) {
                StageConsole x = Stages.fader(0);
                x.setMaster(master);
                for (int level = half * 128; level < half * 128 + 128; level++) {
                    x.setFader(0, level);
                    bothLevels(check, level + " under " + master, level * master / 255, x, 0);
                }
            }
        }
        StageConsole x = Stages.fader(1);
        x.setMaster(254);
        bothLevels(check, "254/255", 0, x, 0);
        x.setFader(0, 254);
        bothLevels(check, "254 * 254/255", 253, x, 0);
    }

    private static void anewForEachCall(Check check) {
        check.about(29, "from a row of all levels that is made anew for each call or tick");
        StageConsole x = Stages.fader(10);
        for (int level = 0; level < 5; level++) {
            x.setFader(0, level);
            bothLevels(check, "asked again after a move", level, x, 0);
            bothLevels(check, "asked twice", level, x, 0);
        }
        x.park(0, 9);
        bothLevels(check, "parked", 9, x, 0);
        x.unpark(0);
        bothLevels(check, "unparked", 4, x, 0);
    }

    private static void aloneNoChannel(Check check) {
        check.about(30, "Throws IndexOutOfBoundsException if there is no such channel");
        for (int channel : Twins.outside(0, 11)) {
            Twins.refuse(check, "channel " + channel, INDEX, Stages::busy, x -> x.levelAlone(channel));
        }
        StageConsole x = Stages.parked();
        for (int i = 0; i < 12; i++) {
            int channel = i;
            check.is("channel " + channel, 20 + channel, () -> x.levelAlone(channel));
        }
        Twins.keep(check, "asked", 33, Stages::busy, y -> y.levelAlone(4));
    }

    private static void aloneTheSame(Check check) {
        check.about(30, "Returns the same level, found for this channel alone");
        for (StageConsole x : new StageConsole[] {Stages.busy(), Stages.full(), Stages.parked(), Stages.fresh()}) {
            for (int tick = 0; tick < 15; tick++) {
                for (int i = 0; i < 12; i++) {
                    int channel = i;
                    check.is("channel " + channel, x.level(channel), () -> x.levelAlone(channel));
                }
                x.pass(1);
            }
        }
    }

    private static void rankRefused(Check check) {
        check.about(31, "Throws IndexOutOfBoundsException if there is no such rank");
        for (int rank : Twins.outside(0, 11)) {
            Twins.refuse(check, "rank " + rank, INDEX, Stages::busy, x -> x.channelByLevel(rank));
        }
        StageConsole x = Stages.parked();
        check.is("rank 0", 11, () -> x.channelByLevel(0));
        check.is("rank 11", 0, () -> x.channelByLevel(11));
        Twins.keep(check, "asked", 0, Stages::fresh, y -> y.channelByLevel(0));
    }

    private static void order(Check check, String what, StageConsole x, int... due) {
        for (int i = 0; i < 12; i++) {
            int rank = i;
            check.is(what + ", rank " + rank, due[rank], () -> x.channelByLevel(rank));
        }
    }

    private static void equalLevels(Check check) {
        check.about(31, "for equal ones, the channel with the lower number comes first");
        order(check, "all dark", new StageConsole(), 0, 1, 2, 3, 4, 5, 6, 7, 8, 9, 10, 11);
        StageConsole x = Stages.parked();
        for (int channel = 0; channel < 12; channel++) {
            x.park(channel, 255);
        }
        order(check, "all full", x, 0, 1, 2, 3, 4, 5, 6, 7, 8, 9, 10, 11);
        for (int channel = 1; channel < 12; channel += 2) {
            x.park(channel, 254);
        }
        order(check, "even ones above odd ones", x, 0, 2, 4, 6, 8, 10, 1, 3, 5, 7, 9, 11);
        for (int channel = 0; channel < 12; channel += 2) {
            x.park(channel, 253);
        }
        order(check, "odd ones above even ones", x, 1, 3, 5, 7, 9, 11, 0, 2, 4, 6, 8, 10);
    }

    private static void descendingOrder(Check check) {
        check.about(31, "Returns the channel at a rank, in descending order of the levels");
        order(check, "rising", Stages.parked(), 11, 10, 9, 8, 7, 6, 5, 4, 3, 2, 1, 0);
        StageConsole x = new StageConsole();
        int[] levels = {1, 0, 255, 254, 7, 7, 255, 0, 128, 127, 1, 2};
        for (int channel = 0; channel < 12; channel++) {
            x.park(channel, levels[channel]);
        }
        order(check, "mixed", x, 2, 6, 3, 8, 9, 4, 5, 11, 0, 10, 1, 7);
        StageConsole y = Stages.fader(200);
        y.setMember(0, 5, true);
        y.park(5, 100);
        y.setMaster(128);
        order(check, "levels, not base levels", y, 0, 5, 1, 2, 3, 4, 6, 7, 8, 9, 10, 11);
    }

    private static void energyAtFirst(Check check) {
        check.about(32, "added up at the end of each tick since the beginning");
        StageConsole x = Stages.parked();
        check.is("before the first tick", 0L, () -> x.energy());
        x.pass(1);
        check.is("the first tick", 306L, () -> x.energy());
        check.is("asked again", 306L, () -> x.energy());
        x.pass(100);
        check.is("101 ticks", 306L * 101, () -> x.energy());
        StageConsole y = new StageConsole();
        y.pass(100);
        check.is("all dark", 0L, () -> y.energy());
        Twins.keep(check, "asked", Stages.busy().energy(), Stages::busy, z -> z.energy());
    }

    private static void energyAtTheEndOfEachTick(Check check) {
        check.about(32, "The sum of the levels, at the end of each tick");
        StageConsole x = Stages.cue(2, 'l', 100);
        x.go();
        x.pass(1);
        check.is("not at its begin, where the level was 0", 50L, () -> x.energy());
        x.pass(1);
        check.is("the last tick of a fade is at its end", 150L, () -> x.energy());
        StageConsole y = Stages.cue(2, 'l', 100);
        y.go();
        y.pass(3);
        check.is("each tick of one call", 250L, () -> y.energy());
        StageConsole z = Stages.effect('w', 4, 100, 0, 1);
        for (long due : new long[] {25, 75, 150, 150}) {
            z.pass(1);
            check.is("an effect's phase is that of the tick's end", due, () -> z.energy());
        }
        z.addCue(1, 0, 'l');
        z.setChange(1, 0, 9);
        z.go();
        z.setFader(0, 200);
        check.is("a move without a tick adds nothing", 150L, () -> z.energy());
    }

    private static void energyOfAllChannels(Check check) {
        check.about(32, "Returns the sum of the levels of all channels");
        StageConsole x = new StageConsole();
        long sum = 0;
        for (int channel = 0; channel < 12; channel++) {
            x.park(channel, 255);
            x.pass(1);
            sum += 255L * (channel + 1);
            long due = sum;
            check.is("channels 0 to " + channel, due, () -> x.energy());
        }
        x.setMaster(0);
        x.pass(1);
        long due = sum + 12 * 255;
        check.is("parked ones under master 0", due, () -> x.energy());
        StageConsole y = Stages.fader(100);
        y.setMaster(128);
        y.pass(2);
        check.is("under the master", 100L, () -> y.energy());
    }

    private static void shareOfNone(Check check) {
        check.about(33, "Returns the share of the channels whose level is above 0");
        check.is("none", 0.0f, () -> new StageConsole().litShare());
        check.is("all", 1.0f, () -> Stages.parked().litShare());
        Twins.keep(check, "asked", Stages.busy().litShare(), Stages::busy, x -> x.litShare());
    }

    private static void shareAboveZero(Check check) {
        check.about(33, "whose level is above 0");
        StageConsole x = new StageConsole();
        x.park(0, 0);
        check.is("parked at 0", 0.0f, () -> x.litShare());
        x.park(0, 1);
        check.is("parked at 1", 1.0f / 12.0f, () -> x.litShare());
        StageConsole y = Stages.fader(1);
        check.is("level 1", 1.0f / 12.0f, () -> y.litShare());
        y.setMaster(254);
        check.is("rounded down to 0", 0.0f, () -> y.litShare());
        y.setFader(0, 2);
        check.is("rounded down to 1", 1.0f / 12.0f, () -> y.litShare());
        y.setMaster(0);
        check.is("master 0", 0.0f, () -> y.litShare());
    }

    private static void shareAsFloat(Check check) {
        check.about(33, "the number of these channels divided by 12, both converted to float");
        float[] due = {0.0f, 0.083333336f, 0.16666667f, 0.25f, 0.33333334f, 0.41666666f, 0.5f, 0.5833333f, 0.6666667f,
            0.75f, 0.8333333f, 0.9166667f, 1.0f};
        for (int i = 0; i <= 12; i++) {
            int count = i;
            StageConsole x = new StageConsole();
            for (int channel = 0; channel < count; channel++) {
                x.park(11 - channel, 255 - channel);
            }
            check.is(count + " of 12", due[count], () -> x.litShare());
        }
    }

    private static void meanOfAll(Check check) {
        check.about(34, "Returns the sum of their levels divided by their number, both converted to double");
        check.is("all dark", 0.0, () -> new StageConsole().meanLevel());
        StageConsole x = Stages.fader(1);
        check.is("one twelfth", 1.0 / 12.0, () -> x.meanLevel());
        for (int channel = 0; channel < 12; channel++) {
            x.setMember(0, channel, true);
        }
        x.setFader(0, 255);
        check.is("all full", 255.0, () -> x.meanLevel());
        x.setMaster(254);
        check.is("under the master", 254.0, () -> x.meanLevel());
        Twins.keep(check, "asked", Stages.busy().meanLevel(), Stages::busy, y -> y.meanLevel());
    }

    private static void meanOfNotParked(Check check) {
        check.about(34, "the mean level of the channels that are not parked");
        StageConsole x = Stages.fader(100);
        for (int i = 11; i > 0; i--) {
            int left = i;
            x.park(i, i % 2 * 255);
            check.is(left + " are left", 100.0 / left, () -> x.meanLevel());
        }
        x.unpark(11);
        check.is("one unparked again", 50.0, () -> x.meanLevel());
    }

    private static void meanWhenAllAreParked(Check check) {
        check.about(34, "Throws ArithmeticException if all channels are parked");
        Twins.refuse(check, "all parked", ArithmeticException.class, Stages::parked, x -> x.meanLevel());
        for (int i = 0; i < 12; i++) {
            int channel = i;
            StageConsole x = Stages.parked();
            x.unpark(channel);
            check.is("all but " + channel, 0.0, () -> x.meanLevel());
            x.park(channel, 0);
            check.fails("all, one at 0", ArithmeticException.class, () -> x.meanLevel());
        }
    }
}
