import java.util.NoSuchElementException;
import java.util.Set;
import java.util.TreeSet;

/** Promise 1, and the last of the 512 calls for which an object is used. */
final class ObjectEdges {
    static void run(Check check) {
        withoutCues(check);
        withoutGroupsAndEffects(check);
        withoutSteps(check);
        atTimeZero(check);
        eachItsOwn(check);
        lastOf512Calls(check);
        everyPromise(check);
    }

    private static void withoutCues(Check check) {
        check.about(1, "Creates a console without cues");
        StageConsole x = new StageConsole();
        check.is("cues", 0, () -> x.cues());
        for (int i = 0; i <= 100; i++) {
            int number = i;
            check.fails("cue " + number, NoSuchElementException.class, () -> x.goTo(number));
            check.fails("cue " + number, NoSuchElementException.class, () -> x.trackedLevel(number, 0));
        }
        check.fails("go", NoSuchElementException.class, () -> x.go());
        check.fails("back", NoSuchElementException.class, () -> x.back());
        check.is("currentCue", 0, () -> x.currentCue());
    }

    private static void withoutGroupsAndEffects(Check check) {
        check.about(1, "without groups and effects");
        for (int i = 0; i < 5; i++) {
            int number = i;
            StageConsole x = new StageConsole();
            check.fails("group " + number, IndexOutOfBoundsException.class, () -> x.setFader(number, 0));
            check.fails("effect " + number, IndexOutOfBoundsException.class, () -> x.startEffect(number));
            check.is("the first group", 0, () -> x.addGroup());
            check.is("the first effect", 0, () -> x.addEffect(0, 'w', 2, 1, 0));
        }
    }

    private static void withoutSteps(Check check) {
        check.about(1, "without steps");
        StageConsole x = new StageConsole();
        check.is("clearMacro", 0, () -> x.clearMacro());
        check.is("runMacro", 0, () -> x.runMacro());
        check.is("addStep", 1, () -> x.addStep('g', 0, 0));
    }

    private static void atTimeZero(Check check) {
        check.about(1, "at the time 0");
        check.is("after one tick", 1, () -> new StageConsole().pass(1));
        check.is("after 100 ticks", 100, () -> new StageConsole().pass(100));
        check.is("no energy", 0L, () -> new StageConsole().energy());
    }

    private static void eachItsOwn(Check check) {
        check.about(1, "StageConsole(): Creates a console");
        for (int kind = 0; kind < Views.KINDS; kind++) {
            String due = Views.of(kind, new StageConsole());
            StageConsole x = new StageConsole();
            Stages.full().runMacro();
            Stages.busy();
            Stages.parked();
            check.same("one made before the others", due, Views.of(kind, x));
            check.same("one made after the others", due, Views.of(kind, new StageConsole()));
        }
    }

    private static void lastOf512Calls(Check check) {
        check.about(1, "An object is used for at most 512 calls after it has been made");
        StageConsole x = new StageConsole();
        for (int channel = 0; channel < 12; channel++) {
            x.park(channel, 255);
        }
        for (int step = 0; step < 8; step++) {
            x.addStep('w', 100, 0);
        }
        for (int run = 0; run < 490; run++) {
            check.is("run " + run, 8, () -> x.runMacro());
        }
        check.is("the 511th call: the time", 392001, () -> x.pass(1));
        check.is("the 512th call: the energy", 392001L * 12 * 255, () -> x.energy());

        StageConsole y = new StageConsole();
        for (int call = 0; call < 255; call++) {
            check.is("a cue added", 1, () -> y.addCue(99, 40, 's'));
            check.is("and removed", 0, () -> y.removeCue(99));
        }
        check.is("the 511th call", 1, () -> y.addCue(1, 0, 'l'));
        check.is("the 512th call", 1, () -> y.go());

        StageConsole z = Stages.effect('t', 39, 255, 39, 12);
        for (int call = 0; call < 490; call++) {
            z.pass(100);
        }
        check.is("an effect's phase after 49000 ticks", 255 * 16 / 19, () -> z.effectOn(0, 11));
        check.is("its ticks", 49000, () -> z.stopEffect(0));
    }

    private static void everyPromise(Check check) {
        check.endSentence();
        Set<Integer> due = new TreeSet<>();
        for (int promise = 1; promise <= 38; promise++) {
            due.add(promise);
        }
        check.same("promises with tests of their boundary cases", due, check.promises());
    }
}
