/** Consoles for the tests, each new and in a state of its own. */
final class Stages {
    static final int[] FULL_CUES = {1, 7, 13, 19, 25, 31, 37, 43, 49, 55, 61, 67, 73, 79, 85, 99};

    static StageConsole fresh() {
        return new StageConsole();
    }

    /** A bit of everything: in the middle of a fade, an effect that runs and one that does not, a macro that failed. */
    static StageConsole busy() {
        StageConsole x = new StageConsole();
        x.addCue(10, 20, 'l');
        x.addCue(20, 9, 'q');
        x.addCue(30, 30, 's');
        x.setChange(10, 0, 200);
        x.setChange(10, 1, 100);
        x.setChange(10, 11, 50);
        x.setChange(20, 0, 0);
        x.setChange(20, 2, 255);
        x.setChange(20, 11, 77);
        x.setChange(30, 3, 9);
        x.setBlock(30, true);
        x.addGroup();
        x.addGroup();
        for (int channel : new int[] {0, 2, 5, 11}) {
            x.setMember(0, channel, true);
        }
        for (int channel : new int[] {1, 2, 6}) {
            x.setMember(1, channel, true);
        }
        x.setFader(1, 120);
        x.setLatest(2, true);
        x.setLatest(11, true);
        x.addEffect(0, 'w', 10, 90, 3);
        x.addEffect(1, 't', 7, 40, 2);
        x.pass(2);
        x.startEffect(0);
        x.go();
        x.pass(20);
        x.go();
        x.pass(3);
        x.setFader(0, 61);
        x.park(4, 33);
        x.park(5, 0);
        x.addStep('m', 200, 0);
        x.addStep('p', 3, 44);
        x.addStep('t', 98, 0);
        x.runMacro();
        return x;
    }

    /** 16 cues, 5 groups, 4 effects that all run, and 8 steps; no macro was run. */
    static StageConsole full() {
        StageConsole x = new StageConsole();
        for (int number : FULL_CUES) {
            x.addCue(number, number % 40, number % 3 == 0 ? 's' : 'q');
            x.setChange(number, number % 12, 255 - number);
        }
        for (int group = 0; group < 5; group++) {
            x.addGroup();
            for (int channel = group; channel < 12; channel += 2) {
                x.setMember(group, channel, true);
            }
            x.setFader(group, 10 + group);
        }
        for (int effect = 0; effect < 4; effect++) {
            x.addEffect(effect, effect % 2 == 0 ? 'w' : 't', 10 + effect, 30 + effect, 1 + effect);
            x.startEffect(effect);
            x.pass(1);
        }
        x.go();
        x.pass(1);
        for (int step = 0; step < 8; step++) {
            x.addStep('p', step, 20 + step);
        }
        return x;
    }

    /** All channels parked, at 20 and above by their numbers. */
    static StageConsole parked() {
        StageConsole x = new StageConsole();
        for (int channel = 0; channel < 12; channel++) {
            x.park(channel, 20 + channel);
        }
        return x;
    }

    /** One group with one member, channel 0, at a level. */
    static StageConsole fader(int level) {
        StageConsole x = new StageConsole();
        x.addGroup();
        x.setMember(0, 0, true);
        x.setFader(0, level);
        return x;
    }

    /** One cue, number 1, with one change, for channel 0; not played. */
    static StageConsole cue(int ticks, char curve, int level) {
        StageConsole x = new StageConsole();
        x.addCue(1, ticks, curve);
        x.setChange(1, 0, level);
        return x;
    }

    /** One group with the first members, and one effect for it that has just been started. */
    static StageConsole effect(char shape, int period, int size, int spread, int members) {
        StageConsole x = new StageConsole();
        x.addGroup();
        for (int channel = 0; channel < members; channel++) {
            x.setMember(0, channel, true);
        }
        x.addEffect(0, shape, period, size, spread);
        x.startEffect(0);
        return x;
    }
}
