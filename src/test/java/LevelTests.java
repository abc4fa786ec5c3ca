import java.util.NoSuchElementException;

/** Promises 26 to 34. */
final class LevelTests {
    static void run(Check check) {
        parking(check);
        master(check);
        levels(check);
        ranks(check);
        energy(check);
        energyDuringAFade(check);
        litShare(check);
        meanLevel(check);
    }

    private static StageConsole withFader(int level) {
        StageConsole x = new StageConsole();
        x.addGroup();
        x.setMember(0, 0, true);
        x.setFader(0, level);
        return x;
    }

    private static void bothLevels(Check check, String what, int due, StageConsole x, int channel) {
        check.is(what + " (level)", due, () -> x.level(channel));
        check.is(what + " (levelAlone)", due, () -> x.levelAlone(channel));
    }

    private static void parking(Check check) {
        StageConsole x = withFader(100);
        check.is("park first", -1, () -> x.park(0, 255));
        check.is("park second", 255, () -> x.park(0, 0));
        check.is("park third", 0, () -> x.park(0, 33));
        bothLevels(check, "parked", 33, x, 0);
        check.is("the base goes on", 100, () -> x.baseLevel(0));
        x.setMaster(0);
        bothLevels(check, "parked under the master", 33, x, 0);
        check.fails("park too high", IllegalArgumentException.class, () -> x.park(0, 256));
        check.fails("park too low", IllegalArgumentException.class, () -> x.park(0, -1));
        check.fails("park no channel", IndexOutOfBoundsException.class, () -> x.park(12, 1));
        check.fails("park no channel", IndexOutOfBoundsException.class, () -> x.park(-1, 1));
        check.fails("park no channel first", IndexOutOfBoundsException.class, () -> x.park(12, 256));
        check.is("faults park nothing, unpark", 33, () -> x.unpark(0));
        x.setMaster(255);
        bothLevels(check, "unparked", 100, x, 0);
        check.fails("unpark twice", NoSuchElementException.class, () -> x.unpark(0));
        check.fails("unpark no channel", IndexOutOfBoundsException.class, () -> x.unpark(12));
        check.fails("unpark no channel", IndexOutOfBoundsException.class, () -> x.unpark(-1));
        check.is("park at 0", -1, () -> x.park(11, 0));
        check.is("unpark from 0", 0, () -> x.unpark(11));
    }

    private static void master(Check check) {
        StageConsole x = withFader(100);
        check.is("setMaster first", 255, () -> x.setMaster(254));
        bothLevels(check, "rounded down", 99, x, 0);
        check.is("setMaster second", 254, () -> x.setMaster(0));
        bothLevels(check, "dark", 0, x, 0);
        check.is("setMaster third", 0, () -> x.setMaster(128));
        bothLevels(check, "half", 50, x, 0);
        check.fails("setMaster too high", IllegalArgumentException.class, () -> x.setMaster(256));
        check.fails("setMaster too low", IllegalArgumentException.class, () -> x.setMaster(-1));
        check.is("faults move nothing", 128, () -> x.setMaster(255));
    }

    private static void levels(Check check) {
        StageConsole x = withFader(200);
        x.addGroup();
        x.setMember(0, 3, true);
        x.setMember(1, 3, true);
        x.addEffect(0, 'q', 4, 50, 0);
        x.addEffect(1, 'q', 4, 30, 0);
        x.startEffect(0);
        bothLevels(check, "one effect", 250, x, 3);
        x.startEffect(1);
        bothLevels(check, "two effects, at most 255", 255, x, 3);
        bothLevels(check, "one effect", 250, x, 0);
        x.setMaster(100);
        bothLevels(check, "at most 255 before the master", 100, x, 3);
        bothLevels(check, "the master after the effects", 98, x, 0);
        bothLevels(check, "no source", 0, x, 11);
        x.stopEffect(0);
        bothLevels(check, "an effect stopped", 90, x, 3);
        for (int channel : new int[] {-1, 12, Integer.MIN_VALUE, Integer.MAX_VALUE}) {
            check.fails("level " + channel, IndexOutOfBoundsException.class, () -> x.level(channel));
            check.fails("levelAlone " + channel, IndexOutOfBoundsException.class, () -> x.levelAlone(channel));
        }
    }

    private static void ranks(Check check) {
        StageConsole x = new StageConsole();
        x.park(7, 200);
        x.park(3, 200);
        x.park(11, 255);
        x.park(0, 1);
        int[] due = {11, 3, 7, 0, 1, 2, 4, 5, 6, 8, 9, 10};
        for (int i = 0; i < 12; i++) {
            int rank = i;
            check.is("channelByLevel " + rank, due[rank], () -> x.channelByLevel(rank));
        }
        for (int rank : new int[] {-1, 12, Integer.MIN_VALUE, Integer.MAX_VALUE}) {
            check.fails("channelByLevel " + rank, IndexOutOfBoundsException.class, () -> x.channelByLevel(rank));
        }
        x.unpark(11);
        check.is("first after unpark", 3, () -> x.channelByLevel(0));
        check.is("last after unpark", 11, () -> x.channelByLevel(11));
    }

    private static void energy(Check check) {
        StageConsole x = withFader(10);
        check.is("no tick yet", 0L, () -> x.energy());
        x.park(5, 7);
        x.pass(1);
        check.is("one tick", 17L, () -> x.energy());
        x.setMaster(0);
        check.is("only ticks add", 17L, () -> x.energy());
        x.pass(100);
        check.is("parked ones count", 717L, () -> x.energy());
        check.fails("a fault", IllegalArgumentException.class, () -> x.pass(101));
        check.is("a fault adds nothing", 717L, () -> x.energy());
    }

    private static void energyDuringAFade(Check check) {
        StageConsole x = new StageConsole();
        x.addCue(1, 4, 'l');
        x.setChange(1, 0, 100);
        x.go();
        x.pass(3);
        check.is("25, 50 and 75", 150L, () -> x.energy());
        x.pass(2);
        check.is("100 and 100", 350L, () -> x.energy());
        x.addGroup();
        x.setMember(0, 1, true);
        x.addEffect(0, 'w', 10, 100, 0);
        x.startEffect(0);
        x.pass(2);
        check.is("110 and 120", 580L, () -> x.energy());
    }

    private static void litShare(Check check) {
        StageConsole x = new StageConsole();
        check.is("none", 0.0f, () -> x.litShare());
        for (int i = 1; i <= 12; i++) {
            int count = i;
            x.park(12 - count, count == 1 ? 1 : 255);
            check.is("litShare " + count, (float) count / 12.0f, () -> x.litShare());
        }
        x.park(4, 0);
        check.is("parked at 0 is dark", 11.0f / 12.0f, () -> x.litShare());
        StageConsole y = withFader(1);
        check.is("one fader", 1.0f / 12.0f, () -> y.litShare());
        y.setMaster(254);
        check.is("rounded down to 0", 0.0f, () -> y.litShare());
    }

    private static void meanLevel(Check check) {
        StageConsole x = withFader(100);
        check.is("of 12", 100.0 / 12.0, () -> x.meanLevel());
        x.park(1, 255);
        check.is("of 11", 100.0 / 11.0, () -> x.meanLevel());
        x.setMaster(128);
        check.is("of 11 under the master", 50.0 / 11.0, () -> x.meanLevel());
        for (int channel = 1; channel < 12; channel++) {
            x.park(channel, channel);
        }
        check.is("of one", 50.0, () -> x.meanLevel());
        x.park(0, 5);
        check.fails("of none", ArithmeticException.class, () -> x.meanLevel());
        x.unpark(11);
        check.is("of a dark one", 0.0, () -> x.meanLevel());
    }
}
