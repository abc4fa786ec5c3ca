import java.util.NoSuchElementException;

/** Promises 16 to 21. */
final class GroupTests {
    static void run(Check check) {
        addGroup(check);
        members(check);
        faders(check);
        highest(check);
        latest(check);
        latestSource(check);
    }

    private static void addGroup(Check check) {
        StageConsole x = new StageConsole();
        for (int i = 0; i < 5; i++) {
            int number = i;
            check.fails("no group yet", IndexOutOfBoundsException.class, () -> x.setFader(number, 1));
            check.is("addGroup", number, () -> x.addGroup());
            check.is("a new fader", 0, () -> x.setFader(number, 0));
            check.is("a new group has no members", false, () -> x.setMember(number, 11, false));
        }
        check.fails("addGroup sixth", IllegalStateException.class, () -> x.addGroup());
        check.fails("no sixth group", IndexOutOfBoundsException.class, () -> x.setFader(5, 1));
    }

    private static void members(Check check) {
        StageConsole x = new StageConsole();
        x.addGroup();
        check.is("setMember first", false, () -> x.setMember(0, 0, true));
        check.is("setMember second", true, () -> x.setMember(0, 0, true));
        check.is("setMember off", true, () -> x.setMember(0, 0, false));
        check.is("setMember was off", false, () -> x.setMember(0, 0, false));
        check.is("setMember last channel", false, () -> x.setMember(0, 11, true));
        int[][] wrong = {{-1, 0}, {1, 0}, {0, -1}, {0, 12}, {1, 12}, {Integer.MAX_VALUE, 0}, {0, Integer.MIN_VALUE}};
        for (int[] row : wrong) {
            check.fails("setMember " + row[0] + " " + row[1], IndexOutOfBoundsException.class,
                () -> x.setMember(row[0], row[1], true));
        }
    }

    private static void faders(Check check) {
        StageConsole x = new StageConsole();
        x.addGroup();
        x.setMember(0, 1, true);
        check.is("setFader first", 0, () -> x.setFader(0, 255));
        check.is("setFader second", 255, () -> x.setFader(0, 0));
        check.is("setFader third", 0, () -> x.setFader(0, 70));
        check.fails("setFader too high", IllegalArgumentException.class, () -> x.setFader(0, 256));
        check.fails("setFader too low", IllegalArgumentException.class, () -> x.setFader(0, -1));
        check.fails("setFader no group", IndexOutOfBoundsException.class, () -> x.setFader(1, 1));
        check.fails("setFader no group", IndexOutOfBoundsException.class, () -> x.setFader(-1, 1));
        check.fails("setFader no group first", IndexOutOfBoundsException.class, () -> x.setFader(1, 256));
        check.is("faults move nothing", 70, () -> x.baseLevel(1));
        check.is("no member, no level", 0, () -> x.baseLevel(0));
    }

    private static void highest(Check check) {
        StageConsole x = new StageConsole();
        x.addCue(1, 0, 'l');
        x.setChange(1, 2, 100);
        x.addGroup();
        x.addGroup();
        x.addGroup();
        x.setMember(0, 2, true);
        x.setMember(1, 2, true);
        x.setFader(0, 80);
        x.setFader(1, 90);
        x.setFader(2, 250);
        check.is("greatest fader", 90, () -> x.baseLevel(2));
        x.go();
        check.is("greatest is the cue level", 100, () -> x.baseLevel(2));
        x.setFader(0, 120);
        check.is("greatest is group 0", 120, () -> x.baseLevel(2));
        x.setMember(0, 2, false);
        check.is("a member no more", 100, () -> x.baseLevel(2));
        x.setMember(2, 2, true);
        check.is("a member now", 250, () -> x.baseLevel(2));
        check.fails("baseLevel no channel", IndexOutOfBoundsException.class, () -> x.baseLevel(12));
        check.fails("baseLevel no channel", IndexOutOfBoundsException.class, () -> x.baseLevel(-1));
    }

    private static void latest(Check check) {
        StageConsole x = new StageConsole();
        x.addCue(1, 0, 'l');
        x.addCue(2, 10, 'l');
        x.setChange(1, 0, 40);
        x.setChange(2, 0, 60);
        x.addGroup();
        x.addGroup();
        x.setMember(0, 0, true);
        x.setMember(1, 0, true);
        check.is("setLatest first", false, () -> x.setLatest(0, true));
        check.is("setLatest second", true, () -> x.setLatest(0, true));
        check.is("no source yet", 0, () -> x.baseLevel(0));
        x.setFader(1, 200);
        x.setFader(0, 20);
        check.is("the latest, not the highest", 20, () -> x.baseLevel(0));
        x.go();
        check.is("the cues are the latest", 40, () -> x.baseLevel(0));
        x.setFader(0, 20);
        check.is("moved to where it was", 20, () -> x.baseLevel(0));
        x.goTo(1);
        check.is("a cue that changes nothing", 20, () -> x.baseLevel(0));
        x.setMember(0, 0, false);
        check.is("a member no more: the cue level", 40, () -> x.baseLevel(0));
        x.setFader(0, 25);
        x.setMember(0, 0, true);
        check.is("a member again", 25, () -> x.baseLevel(0));
        x.goTo(2);
        check.is("a fade begins", 40, () -> x.baseLevel(0));
        x.pass(5);
        check.is("a fade goes on", 50, () -> x.baseLevel(0));
        x.setFader(1, 3);
        check.is("a fader during a fade", 3, () -> x.baseLevel(0));
        x.pass(5);
        check.is("the fade's end is no move", 3, () -> x.baseLevel(0));
        check.is("setLatest off", true, () -> x.setLatest(0, false));
        check.is("highest again", 60, () -> x.baseLevel(0));
        check.fails("setLatest no channel", IndexOutOfBoundsException.class, () -> x.setLatest(12, true));
        check.fails("setLatest no channel", IndexOutOfBoundsException.class, () -> x.setLatest(-1, true));
        noSourceButALevel(check);
    }

    private static void noSourceButALevel(Check check) {
        StageConsole x = new StageConsole();
        x.addGroup();
        x.setFader(0, 9);
        x.setMember(0, 3, true);
        x.setLatest(3, true);
        check.is("a member after the move", 0, () -> x.baseLevel(3));
        check.fails("no source of it", NoSuchElementException.class, () -> x.latestSource(3));
        x.setLatest(3, false);
        check.is("highest counts the fader", 9, () -> x.baseLevel(3));
    }

    private static void latestSource(Check check) {
        StageConsole x = new StageConsole();
        x.addCue(1, 0, 'l');
        x.addCue(2, 5, 'l');
        x.setChange(1, 0, 10);
        x.setChange(2, 1, 20);
        for (int i = 0; i < 5; i++) {
            x.addGroup();
        }
        x.setMember(4, 0, true);
        x.setMember(4, 11, true);
        check.fails("no source", NoSuchElementException.class, () -> x.latestSource(0));
        x.setFader(4, 0);
        check.is("a group", 4, () -> x.latestSource(0));
        check.is("a group", 4, () -> x.latestSource(11));
        check.fails("not a member", NoSuchElementException.class, () -> x.latestSource(1));
        x.setMember(4, 11, false);
        check.is("a member no more", 4, () -> x.latestSource(11));
        check.fails("a fault moves nothing", IllegalArgumentException.class, () -> x.setFader(4, 256));
        x.go();
        check.is("the cues with time 0", -1, () -> x.latestSource(0));
        check.is("no difference, no source", 4, () -> x.latestSource(11));
        x.go();
        check.is("the cues with a fade", -1, () -> x.latestSource(1));
        x.setMember(3, 1, true);
        x.setFader(3, 0);
        check.is("kept in the mode highest", 3, () -> x.latestSource(1));
        check.fails("latestSource no channel", IndexOutOfBoundsException.class, () -> x.latestSource(12));
        check.fails("latestSource no channel", IndexOutOfBoundsException.class, () -> x.latestSource(-1));
    }
}
