/** Promises 22 to 25 and what "Terms" says of effects: a test for each sentence with a boundary case. */
final class EffectEdges {
    private static final Class<IllegalArgumentException> WRONG = IllegalArgumentException.class;
    private static final Class<IllegalStateException> STATE = IllegalStateException.class;
    private static final Class<IndexOutOfBoundsException> INDEX = IndexOutOfBoundsException.class;

    static void run(Check check) {
        groupsTaken(check);
        groupRefused(check);
        shapesTaken(check);
        periodsTaken(check);
        sizesTaken(check);
        spreadsTaken(check);
        fourEffects(check);
        orderOfAddEffect(check);
        runsFromItsStart(check);
        startCounts(check);
        startRefused(check);
        startTwice(check);
        stopAnswers(check);
        stopRefused(check);
        stopNotRunning(check);
        orderOfStartAndStop(check);
        zeroIfItDoesNotRun(check);
        zeroIfNotAMember(check);
        effectOnRefused(check);
        membersWithLowerNumbers(check);
        remainderByThePeriod(check);
        halfRoundedDown(check);
        saw(check);
        triangle(check);
        pulse(check);
        roundedDown(check);
    }

    private static void groupsTaken(Check check) {
        check.about(22, "group: the number of its group");
        for (int i = 0; i < 5; i++) {
            int group = i;
            StageConsole x = new StageConsole();
            for (int j = 0; j < 5; j++) {
                x.addGroup();
                x.setMember(j, j, true);
            }
            check.is("group " + group, 0, () -> x.addEffect(group, 'q', 2, 9, 0));
            x.startEffect(0);
            for (int j = 0; j < 5; j++) {
                int channel = j;
                check.is("member of " + channel, channel == group ? 9 : 0, () -> x.effectOn(0, channel));
            }
        }
    }

    private static void groupRefused(Check check) {
        check.about(22, "Throws IndexOutOfBoundsException if there is no such group");
        for (int group : Twins.outside(0, 1)) {
            Twins.refuse(check, "group " + group, INDEX, Stages::busy, x -> x.addEffect(group, 'w', 5, 5, 5));
        }
        Twins.refuse(check, "no group at all", INDEX, Stages::fresh, x -> x.addEffect(0, 'w', 5, 5, 5));
    }

    private static void shapesTaken(Check check) {
        check.about(22, "Throws IllegalArgumentException if there is no such shape");
        for (int i = 0; i < 65536; i++) {
            char shape = (char) i;
            StageConsole x = new StageConsole();
            x.addGroup();
            Object due = shape == 'w' || shape == 't' || shape == 'q' ? (Object) 0 : WRONG;
            check.is("shape " + i, due, () -> x.addEffect(0, shape, 5, 5, 5));
        }
        for (char shape : new char[] {'v', 'x', 's', 'u', 'p', 'r', 'l', 'W', 'T', 'Q', 0, 'w' + 256, 65535}) {
            Twins.refuse(check, "shape " + (int) shape, WRONG, Stages::busy, x -> x.addEffect(0, shape, 5, 5, 5));
        }
    }

    private static void periodsTaken(Check check) {
        check.about(22, "period: its period, 2 to 40");
        for (int i = 2; i <= 40; i++) {
            int period = i;
            StageConsole x = Stages.effect('w', period, 255, 0, 1);
            x.pass(period - 1);
            check.is("the last tick of " + period, 255 * (period - 1) / period, () -> x.effectOn(0, 0));
            x.pass(1);
            check.is("around " + period, 0, () -> x.effectOn(0, 0));
        }
        for (int period : Twins.outside(2, 40)) {
            Twins.refuse(check, "period " + period, WRONG, Stages::busy, x -> x.addEffect(0, 'q', period, 5, 5));
        }
        Twins.refuse(check, "period 0", WRONG, Stages::busy, x -> x.addEffect(0, 't', 0, 5, 5));
    }

    private static void sizesTaken(Check check) {
        check.about(22, "size: its size, 1 to 255");
        for (int i = 1; i <= 255; i++) {
            int size = i;
            StageConsole x = Stages.effect('q', 2, size, 0, 1);
            check.is("size " + size, size, () -> x.effectOn(0, 0));
        }
        for (int size : Twins.outside(1, 255)) {
            Twins.refuse(check, "size " + size, WRONG, Stages::busy, x -> x.addEffect(0, 'q', 5, size, 5));
        }
    }

    private static void spreadsTaken(Check check) {
        check.about(22, "spread: its spread, 0 to 39");
        for (int i = 0; i <= 39; i++) {
            int spread = i;
            StageConsole x = Stages.effect('w', 40, 200, spread, 12);
            for (int j = 0; j < 12; j++) {
                int channel = j;
                check.is("spread " + spread + ", channel " + channel, spread * channel % 40 * 5,
                    () -> x.effectOn(0, channel));
            }
        }
        for (int spread : Twins.outside(0, 39)) {
            Twins.refuse(check, "spread " + spread, WRONG, Stages::busy, x -> x.addEffect(0, 'q', 5, 5, spread));
        }
    }

    private static void fourEffects(Check check) {
        check.about(22, "Throws IllegalStateException if there are 4 effects");
        StageConsole x = new StageConsole();
        x.addGroup();
        for (int i = 0; i < 4; i++) {
            int effect = i;
            check.fails("not there yet", INDEX, () -> x.startEffect(effect));
            check.is("effect " + effect, effect, () -> x.addEffect(0, 'w', 2, 1, 0));
            check.is("it is there", effect + 1, () -> x.startEffect(effect));
        }
        check.fails("a fifth", STATE, () -> x.addEffect(0, 'w', 2, 1, 0));
        x.stopEffect(3);
        check.fails("though one was stopped", STATE, () -> x.addEffect(0, 'w', 2, 1, 0));
        Twins.refuse(check, "a fifth", STATE, Stages::full, y -> y.addEffect(4, 'q', 40, 255, 39));
    }

    private static void orderOfAddEffect(Check check) {
        check.about(22, "If several exceptions apply, the one that is documented first is thrown");
        Twins.refuse(check, "no group, no shape", INDEX, Stages::busy, x -> x.addEffect(2, 'l', 5, 5, 5));
        Twins.refuse(check, "no group, wrong period", INDEX, Stages::busy, x -> x.addEffect(-1, 'w', 1, 5, 5));
        Twins.refuse(check, "no group, wrong size", INDEX, Stages::busy, x -> x.addEffect(2, 'w', 5, 0, 5));
        Twins.refuse(check, "no group, wrong spread", INDEX, Stages::busy, x -> x.addEffect(2, 'w', 5, 5, 40));
        Twins.refuse(check, "no group, full", INDEX, Stages::full, x -> x.addEffect(5, 'w', 5, 5, 5));
        Twins.refuse(check, "no group, no shape, full", INDEX, Stages::full, x -> x.addEffect(-1, 'l', 5, 5, 5));
        Twins.refuse(check, "no shape, full", WRONG, Stages::full, x -> x.addEffect(0, 'l', 5, 5, 5));
        Twins.refuse(check, "wrong period, full", WRONG, Stages::full, x -> x.addEffect(0, 'w', 41, 5, 5));
        Twins.refuse(check, "wrong size, full", WRONG, Stages::full, x -> x.addEffect(0, 'w', 5, 256, 5));
        Twins.refuse(check, "wrong spread, full", WRONG, Stages::full, x -> x.addEffect(0, 'w', 5, 5, -1));
    }

    private static void runsFromItsStart(Check check) {
        check.about(23, "An effect runs from when it is started until it is stopped");
        StageConsole x = new StageConsole();
        x.addGroup();
        x.setMember(0, 0, true);
        x.addEffect(0, 'w', 10, 100, 0);
        x.pass(7);
        check.is("added, not started", 0, () -> x.level(0));
        x.startEffect(0);
        check.is("at its start", 0, () -> x.effectOn(0, 0));
        x.pass(7);
        check.is("7 ticks since", 70, () -> x.effectOn(0, 0));
        x.stopEffect(0);
        check.is("stopped", 0, () -> x.effectOn(0, 0));
        check.is("no level of it", 0, () -> x.level(0));
        x.pass(2);
        x.startEffect(0);
        check.is("started again, from the beginning", 0, () -> x.effectOn(0, 0));
        x.pass(3);
        check.is("3 ticks since", 30, () -> x.effectOn(0, 0));
    }

    private static void startCounts(Check check) {
        check.about(23, "Returns the number of effects that run after the call");
        StageConsole x = Stages.full();
        for (int effect = 0; effect < 4; effect++) {
            x.stopEffect(effect);
        }
        for (int i = 0; i < 4; i++) {
            int effect = 3 - i;
            check.is("effect " + effect, i + 1, () -> x.startEffect(effect));
        }
        x.stopEffect(0);
        x.stopEffect(1);
        check.is("after two stopped", 3, () -> x.startEffect(1));
    }

    private static void startRefused(Check check) {
        check.about(23, "Throws IndexOutOfBoundsException if there is no such effect");
        for (int effect : Twins.outside(0, 1)) {
            Twins.refuse(check, "effect " + effect, INDEX, Stages::busy, x -> x.startEffect(effect));
        }
        Twins.refuse(check, "no effect at all", INDEX, Stages::fresh, x -> x.startEffect(0));
        Twins.refuse(check, "a fifth", INDEX, Stages::full, x -> x.startEffect(4));
    }

    private static void startTwice(Check check) {
        check.about(23, "Throws IllegalStateException if it runs");
        Twins.refuse(check, "effect 0", STATE, Stages::busy, x -> x.startEffect(0));
        for (int i = 0; i < 4; i++) {
            int effect = i;
            Twins.refuse(check, "effect " + effect, STATE, Stages::full, x -> x.startEffect(effect));
        }
        StageConsole x = Stages.effect('w', 10, 100, 0, 0);
        check.fails("for a group without members", STATE, () -> x.startEffect(0));
    }

    private static void stopAnswers(Check check) {
        check.about(24, "Returns the number of ticks since it was started");
        StageConsole x = new StageConsole();
        x.addGroup();
        x.addEffect(0, 'w', 2, 1, 39);
        x.pass(5);
        for (int ticks : new int[] {0, 1, 2, 40, 100}) {
            x.startEffect(0);
            Check.answerOf(() -> x.pass(ticks));
            check.is(ticks + " ticks", ticks, () -> x.stopEffect(0));
        }
        x.startEffect(0);
        x.pass(100);
        x.pass(100);
        check.fails("a start that is refused", STATE, () -> x.startEffect(0));
        check.is("200 ticks", 200, () -> x.stopEffect(0));
    }

    private static void stopRefused(Check check) {
        check.about(24, "Throws IndexOutOfBoundsException if there is no such effect");
        for (int effect : Twins.outside(0, 1)) {
            Twins.refuse(check, "effect " + effect, INDEX, Stages::busy, x -> x.stopEffect(effect));
        }
        Twins.refuse(check, "no effect at all", INDEX, Stages::fresh, x -> x.stopEffect(0));
        Twins.refuse(check, "a fifth", INDEX, Stages::full, x -> x.stopEffect(4));
    }

    private static void stopNotRunning(Check check) {
        check.about(24, "Throws IllegalStateException if it does not run");
        Twins.refuse(check, "never started", STATE, Stages::busy, x -> x.stopEffect(1));
        StageConsole x = Stages.busy();
        check.is("stopped", 23, () -> x.stopEffect(0));
        check.fails("twice", STATE, () -> x.stopEffect(0));
    }

    private static void orderOfStartAndStop(Check check) {
        check.about(24, "effects are numbered from 0");
        StageConsole x = Stages.full();
        for (int i = 0; i < 4; i++) {
            int effect = i;
            check.is("started one after the other", 5 - effect, () -> x.stopEffect(effect));
        }
    }

    private static void zeroIfItDoesNotRun(Check check) {
        check.about(25, "0 if it does not run");
        Twins.keep(check, "never started", 0, Stages::busy, x -> x.effectOn(1, 1));
        StageConsole x = Stages.effect('q', 2, 255, 0, 12);
        x.stopEffect(0);
        for (int i = 0; i < 12; i++) {
            int channel = i;
            check.is("stopped, channel " + channel, 0, () -> x.effectOn(0, channel));
        }
    }

    private static void zeroIfNotAMember(Check check) {
        check.about(25, "0 if the channel is not a member of its group");
        StageConsole x = Stages.effect('q', 40, 255, 0, 11);
        check.is("a member", 255, () -> x.effectOn(0, 10));
        check.is("not a member", 0, () -> x.effectOn(0, 11));
        x.setMember(0, 10, false);
        check.is("a member no more", 0, () -> x.effectOn(0, 10));
        x.setMember(0, 11, true);
        check.is("a member now", 255, () -> x.effectOn(0, 11));
        x.addGroup();
        x.setMember(1, 10, true);
        check.is("a member of another group", 0, () -> x.effectOn(0, 10));
    }

    private static void effectOnRefused(Check check) {
        check.about(25, "Throws IndexOutOfBoundsException if there is no such effect or no such channel");
        for (int effect : Twins.outside(0, 1)) {
            Twins.refuse(check, "effect " + effect, INDEX, Stages::busy, x -> x.effectOn(effect, 0));
        }
        for (int channel : Twins.outside(0, 11)) {
            Twins.refuse(check, "channel " + channel, INDEX, Stages::busy, x -> x.effectOn(0, channel));
            Twins.refuse(check, "channel " + channel + ", not running", INDEX, Stages::busy,
                x -> x.effectOn(1, channel));
        }
        Twins.refuse(check, "no effect at all", INDEX, Stages::fresh, x -> x.effectOn(0, 0));
        Twins.refuse(check, "neither", INDEX, Stages::busy, x -> x.effectOn(2, 12));
        Twins.refuse(check, "a fifth", INDEX, Stages::full, x -> x.effectOn(4, 0));
    }

    private static void membersWithLowerNumbers(Check check) {
        check.about(25, "plus the spread times the number of members with lower numbers");
        StageConsole x = Stages.effect('w', 40, 40, 1, 12);
        for (int i = 0; i < 12; i++) {
            int channel = i;
            check.is("all are members, channel " + channel, channel, () -> x.effectOn(0, channel));
        }
        for (int channel = 0; channel < 11; channel++) {
            int left = 10 - channel;
            x.setMember(0, channel, false);
            check.is("fewer below 11", left, () -> x.effectOn(0, 11));
        }
        x.setMember(0, 11, false);
        x.setMember(0, 5, true);
        check.is("the only one", 0, () -> x.effectOn(0, 5));
        x.setMember(0, 6, true);
        check.is("one above does not count", 0, () -> x.effectOn(0, 5));
        x.setMember(0, 4, true);
        check.is("one below counts", 1, () -> x.effectOn(0, 5));
    }

    private static void remainderByThePeriod(Check check) {
        check.about(25, "and of this the remainder by the period");
        for (int i = 2; i <= 40; i++) {
            int period = i;
            StageConsole x = Stages.effect('w', period, period, 39, 12);
            for (int n = 0; n <= 2 * period && n < 40; n++) {
                int ticks = n;
                check.is("first member, " + ticks + " of " + period, ticks % period, () -> x.effectOn(0, 0));
                check.is("last member, " + ticks + " of " + period, (ticks + 39 * 11) % period,
                    () -> x.effectOn(0, 11));
                x.pass(1);
            }
        }
        StageConsole x = Stages.effect('w', 40, 40, 39, 2);
        check.is("phase 39", 39, () -> x.effectOn(0, 1));
        x.pass(1);
        check.is("phase 40 is 0", 0, () -> x.effectOn(0, 1));
        x.pass(40);
        check.is("phase 80 is 0", 0, () -> x.effectOn(0, 1));
    }

    private static void halfRoundedDown(Check check) {
        check.about(25, "With h as half of the period, rounded down");
        int[][] periods = {{2, 1}, {3, 1}, {4, 2}, {5, 2}, {39, 19}, {40, 20}};
        for (int[] row : periods) {
            StageConsole pulse = Stages.effect('q', row[0], 7, 0, 1);
            StageConsole triangle = Stages.effect('t', row[0], 255, 0, 1);
            pulse.pass(row[1]);
            triangle.pass(row[1]);
            check.is("q is 0 at h of " + row[0], 0, () -> pulse.effectOn(0, 0));
            check.is("t has its size at h of " + row[0], 255, () -> triangle.effectOn(0, 0));
        }
    }

    // Each phase of each period, for a size that divides evenly and for one that does not.
    private static void everyPhase(Check check, char shape) {
        for (int period = 2; period <= 40; period++) {
            for (int size : new int[] {1, 100, 255}) {
                StageConsole x = Stages.effect(shape, period, size, 0, 1);
                for (int phase = 0; phase < period; phase++) {
                    check.is(shape + ", size " + size + ", phase " + phase + " of " + period,
                        due(shape, period, size, phase), () -> x.effectOn(0, 0));
                    x.pass(1);
                }
            }
        }
    }

    private static int due(char shape, int period, int size, int phase) {
        int h = (period - period % 2) / 2;
        if (shape == 'w') {
            return Math.floorDiv(size * phase, period);
        }
        if (shape == 'q') {
            return phase < h ? size : 0;
        }
        int up = Math.floorDiv(size * phase, h);
        int down = Math.floorDiv(size * (period - phase), period - h);
        return phase > h ? down : up;
    }

    private static void saw(Check check) {
        check.about(25, "for 'w' the size times the phase, divided by the period");
        everyPhase(check, 'w');
        StageConsole x = Stages.effect('w', 40, 255, 0, 1);
        check.is("phase 0", 0, () -> x.effectOn(0, 0));
        x.pass(1);
        check.is("phase 1", 6, () -> x.effectOn(0, 0));
        x.pass(38);
        check.is("phase 39", 248, () -> x.effectOn(0, 0));
        x.pass(1);
        check.is("phase 0 again", 0, () -> x.effectOn(0, 0));
    }

    private static void triangle(Check check) {
        check.about(25, "for 't' the size times the phase, divided by h, if the phase is at most h, and otherwise");
        everyPhase(check, 't');
        StageConsole x = Stages.effect('t', 5, 100, 0, 1);
        int[] due = {0, 50, 100, 66, 33, 0};
        for (int level : due) {
            check.is("period 5", level, () -> x.effectOn(0, 0));
            x.pass(1);
        }
    }

    private static void pulse(Check check) {
        check.about(25, "for 'q' the size if the phase is less than h, and 0 otherwise");
        everyPhase(check, 'q');
        StageConsole x = Stages.effect('q', 5, 100, 0, 1);
        int[] due = {100, 100, 0, 0, 0, 100};
        for (int level : due) {
            check.is("period 5", level, () -> x.effectOn(0, 0));
            x.pass(1);
        }
    }

    private static void roundedDown(Check check) {
        check.about(25, "all rounded down");
        StageConsole saw = Stages.effect('w', 40, 1, 39, 2);
        check.is("39/40", 0, () -> saw.effectOn(0, 1));
        StageConsole up = Stages.effect('t', 40, 1, 19, 2);
        check.is("19/20 up", 0, () -> up.effectOn(0, 1));
        StageConsole down = Stages.effect('t', 40, 1, 21, 2);
        check.is("19/20 down", 0, () -> down.effectOn(0, 1));
    }
}
