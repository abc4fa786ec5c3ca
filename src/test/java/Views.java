/**
 * What a console shows, as one text: each kind asks for another part of its state, down to what only later calls
 * show. A console is good for one view, as a view uses up most of its 512 calls.
 */
final class Views {
    static final int KINDS = 7;
    static final int READINGS = 0;
    static final int MACRO = 6;

    private final StringBuilder text = new StringBuilder();
    private final StageConsole x;

    private Views(StageConsole x) {
        this.x = x;
    }

    static String of(int kind, StageConsole x) {
        Views view = new Views(x);
        switch (kind) {
            case READINGS -> view.readings();
            case 1 -> view.later();
            case 2 -> view.cues();
            case 3 -> view.timesOfCues();
            case 4 -> view.groups();
            case 5 -> view.effects();
            case MACRO -> view.macro();
            default -> throw new IllegalArgumentException("no such view");
        }
        return view.text.toString();
    }

    private void say(String what, Check.Call call) {
        text.append('\n').append(what).append(' ').append(Check.answerOf(call));
    }

    private void readings() {
        say("cues", () -> x.cues());
        say("currentCue", () -> x.currentCue());
        say("ticksLeft", () -> x.ticksLeft());
        say("energy", () -> x.energy());
        say("litShare", () -> x.litShare());
        say("meanLevel", () -> x.meanLevel());
        say("macroFault", () -> x.macroFault());
        for (int i = 0; i < 12; i++) {
            int channel = i;
            say("cueLevel", () -> x.cueLevel(channel));
            say("baseLevel", () -> x.baseLevel(channel));
            say("level", () -> x.level(channel));
            say("levelAlone", () -> x.levelAlone(channel));
            say("latestSource", () -> x.latestSource(channel));
            say("channelByLevel", () -> x.channelByLevel(channel));
            for (int j = 0; j < 4; j++) {
                int effect = j;
                say("effectOn", () -> x.effectOn(effect, channel));
            }
        }
    }

    private void later() {
        for (int ticks : new int[] {1, 2, 4, 8, 30}) {
            say("pass", () -> x.pass(ticks));
            say("ticksLeft", () -> x.ticksLeft());
            say("energy", () -> x.energy());
            levels();
        }
        say("go", () -> x.go());
        say("pass", () -> x.pass(1));
        levels();
        say("back", () -> x.back());
        say("pass", () -> x.pass(1));
        levels();
        say("currentCue", () -> x.currentCue());
    }

    private void levels() {
        for (int i = 0; i < 12; i++) {
            int channel = i;
            say("cueLevel", () -> x.cueLevel(channel));
            say("level", () -> x.level(channel));
        }
    }

    private void cues() {
        for (int i = 1; i <= 99; i++) {
            int number = i;
            Object wasBlock = Check.answerOf(() -> x.setBlock(number, false));
            text.append('\n').append(wasBlock);
            for (int j = 0; j < 12 && wasBlock instanceof Boolean; j++) {
                int channel = j;
                say("removeChange", () -> x.removeChange(number, channel));
            }
        }
        say("cues", () -> x.cues());
    }

    // Each cue takes channel 0 to the other end of the levels, so that its fade shows its time and its curve.
    private void timesOfCues() {
        int played = 0;
        for (int i = 1; i <= 99; i++) {
            int number = i;
            int end = played % 2 == 0 ? 255 : 0;
            Object before = Check.answerOf(() -> x.setChange(number, 0, end));
            text.append('\n').append(before);
            if (before instanceof Integer) {
                played++;
                say("goTo", () -> x.goTo(number));
                say("ticksLeft", () -> x.ticksLeft());
                say("pass", () -> x.pass(1));
                say("cueLevel", () -> x.cueLevel(0));
                say("pass", () -> x.pass(3));
                say("cueLevel", () -> x.cueLevel(0));
            }
        }
    }

    private void groups() {
        for (int i = 0; i < 5; i++) {
            int group = i;
            for (int j = 0; j < 12; j++) {
                int channel = j;
                say("setMember", () -> x.setMember(group, channel, true));
            }
            say("setFader", () -> x.setFader(group, group));
        }
        for (int i = 0; i < 12; i++) {
            int channel = i;
            say("setLatest", () -> x.setLatest(channel, false));
            say("unpark", () -> x.unpark(channel));
            say("latestSource", () -> x.latestSource(channel));
        }
        say("setMaster", () -> x.setMaster(255));
        levels();
        for (int i = 0; i < 6; i++) {
            say("addGroup", () -> x.addGroup());
        }
    }

    private void effects() {
        effectsFor(2);
        for (int i = 0; i < 4; i++) {
            int effect = i;
            say("stopEffect", () -> x.stopEffect(effect));
        }
        for (int i = 0; i < 4; i++) {
            int effect = i;
            say("startEffect", () -> x.startEffect(effect));
        }
        effectsFor(3);
        for (int i = 0; i < 5; i++) {
            say("addEffect", () -> x.addEffect(0, 'w', 2, 1, 0));
        }
    }

    private void effectsFor(int ticks) {
        for (int tick = 0; tick < ticks; tick++) {
            say("pass", () -> x.pass(1));
            for (int i = 0; i < 48; i++) {
                int effect = i / 12;
                int channel = i % 12;
                say("effectOn", () -> x.effectOn(effect, channel));
            }
        }
    }

    private void macro() {
        say("macroFault", () -> x.macroFault());
        say("runMacro", () -> x.runMacro());
        say("macroFault", () -> x.macroFault());
        levels();
        for (int i = 0; i < 9; i++) {
            int level = i;
            say("addStep", () -> x.addStep('p', 11, level));
        }
        say("runMacro", () -> x.runMacro());
        levels();
        say("clearMacro", () -> x.clearMacro());
        say("runMacro", () -> x.runMacro());
        say("pass", () -> x.pass(1));
    }
}
