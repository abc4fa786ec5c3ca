import java.util.ArrayList;
import java.util.NoSuchElementException;

/**
 * A lighting console for a stage: cues whose levels track from cue to cue, fades by curves, groups with faders,
 * channels on which the highest or the latest source wins, effects with phases, parked channels, a master, and macros.
 */
public final class StageConsole {
    private static final int CHANNELS = 12;
    private static final int TOP_LEVEL = 255;
    private static final int MOST_CUES = 16;
    private static final int TOP_CUE_NUMBER = 99;
    private static final int LONGEST_CUE = 40;
    private static final int LONGEST_PASS = 100;
    private static final int MOST_GROUPS = 5;
    private static final int MOST_EFFECTS = 4;
    private static final int SHORTEST_PERIOD = 2;
    private static final int LONGEST_PERIOD = 40;
    private static final int WIDEST_SPREAD = 39;
    private static final int MOST_STEPS = 8;

    private static final int NO_LEVEL = -1;
    private static final int NOT_PLAYED = 0;

    // Sources of a channel below the numbers of the groups.
    private static final int SOURCE_CUES = -1;
    private static final int SOURCE_NONE = -2;

    private static final char CURVE_LINEAR = 'l';
    private static final char CURVE_SQUARE = 'q';
    private static final char CURVE_SMOOTH = 's';

    private static final char SHAPE_SAW = 'w';
    private static final char SHAPE_TRIANGLE = 't';
    private static final char SHAPE_PULSE = 'q';

    private static final char STEP_GO = 'g';
    private static final char STEP_BACK = 'b';
    private static final char STEP_GO_TO = 't';
    private static final char STEP_FADER = 'f';
    private static final char STEP_MASTER = 'm';
    private static final char STEP_PARK = 'p';
    private static final char STEP_PASS = 'w';

    private static final char FAULT_NONE = 'n';
    private static final char FAULT_INDEX = 'i';
    private static final char FAULT_ARGUMENT = 'a';
    private static final char FAULT_ELEMENT = 'e';
    private static final char NEVER_RUN = ' ';

    // In ascending order of their numbers, so that the cue that another one tracks from is the one before it.
    private final ArrayList<Cue> cueList = new ArrayList<Cue>();
    private int playedNumber = NOT_PLAYED;
    private int now = 0;
    private final Channel[] channels = new Channel[CHANNELS];
    private final ArrayList<Group> groups = new ArrayList<Group>();
    private final ArrayList<Effect> effects = new ArrayList<Effect>();
    private int master = TOP_LEVEL;
    // Filled anew before each use; kept so that ticks make no objects.
    private final int[] levelRow = new int[CHANNELS];
    private long energySum = 0;
    private final ArrayList<Step> steps = new ArrayList<Step>();
    private char lastFault = NEVER_RUN;

    public StageConsole() {
        for (int channel = 0; channel < CHANNELS; channel++) {
            channels[channel] = new Channel();
        }
    }

    // ---- cues

    public int addCue(int number, int ticks, char curve)
            throws IllegalArgumentException, UnsupportedOperationException, IllegalStateException {
        if (!isWithin(number, 1, TOP_CUE_NUMBER) || !isWithin(ticks, 0, LONGEST_CUE) || !isCurve(curve)) {
            throw new IllegalArgumentException("number, time or curve of a cue");
        }
        if (hasCue(number)) {
            throw new UnsupportedOperationException("there is a cue with this number");
        }
        if (cueList.size() >= MOST_CUES) {
            throw new IllegalStateException("no room for another cue");
        }
        cueList.add(placeOf(number), new Cue(number, ticks, curve));
        return cueList.size();
    }

    public int removeCue(int number) throws NoSuchElementException {
        cueList.remove(requireCue(number));
        return cueList.size();
    }

    public int setChange(int number, int channel, int level)
            throws NoSuchElementException, IndexOutOfBoundsException, IllegalArgumentException {
        int place = requireCue(number);
        requireChannel(channel);
        requireLevel(level);
        int[] changes = cueList.get(place).changes;
        int before = changes[channel];
        changes[channel] = level;
        return before;
    }

    public int removeChange(int number, int channel) throws NoSuchElementException, IndexOutOfBoundsException {
        int place = requireCue(number);
        requireChannel(channel);
        int[] changes = cueList.get(place).changes;
        int before = changes[channel];
        if (before == NO_LEVEL) {
            throw new NoSuchElementException("the cue has no change for this channel");
        }
        changes[channel] = NO_LEVEL;
        return before;
    }

    public boolean setBlock(int number, boolean isBlock) throws NoSuchElementException {
        Cue cue = cueList.get(requireCue(number));
        boolean before = cue.isBlock;
        cue.isBlock = isBlock;
        return before;
    }

    public int trackedLevel(int number, int channel) throws NoSuchElementException, IndexOutOfBoundsException {
        int place = requireCue(number);
        requireChannel(channel);
        return trackedAt(place, channel);
    }

    public int cues() {
        return cueList.size();
    }

    // ---- playing

    public int go() throws NoSuchElementException {
        if (!hasCueAbove()) {
            throw new NoSuchElementException("no cue above the current one");
        }
        playPlace(placeAbove());
        return playedNumber;
    }

    public int back() throws NoSuchElementException {
        if (!hasCueBelow()) {
            throw new NoSuchElementException("no cue below the current one");
        }
        playPlace(placeBelow());
        return playedNumber;
    }

    public int goTo(int number) throws NoSuchElementException {
        playPlace(requireCue(number));
        return fadingChannels();
    }

    public int pass(int ticks) throws IllegalArgumentException {
        if (!isPassing(ticks)) {
            throw new IllegalArgumentException("number of ticks");
        }
        passTicks(ticks);
        return now;
    }

    public int currentCue() {
        return playedNumber;
    }

    public int cueLevel(int channel) throws IndexOutOfBoundsException {
        requireChannel(channel);
        return channels[channel].cueLevel;
    }

    public int ticksLeft() {
        int longest = 0;
        for (int channel = 0; channel < CHANNELS; channel++) {
            longest = Math.max(longest, channels[channel].fadeTicksLeft());
        }
        return longest;
    }

    // ---- groups and sources

    public int addGroup() throws IllegalStateException {
        if (groups.size() >= MOST_GROUPS) {
            throw new IllegalStateException("no room for another group");
        }
        groups.add(new Group());
        return groups.size() - 1;
    }

    public boolean setMember(int group, int channel, boolean isMember) throws IndexOutOfBoundsException {
        requireGroup(group);
        requireChannel(channel);
        boolean[] members = groups.get(group).members;
        boolean before = members[channel];
        members[channel] = isMember;
        return before;
    }

    public int setFader(int group, int level) throws IndexOutOfBoundsException, IllegalArgumentException {
        requireGroup(group);
        requireLevel(level);
        return moveFader(group, level);
    }

    public boolean setLatest(int channel, boolean isLatest) throws IndexOutOfBoundsException {
        requireChannel(channel);
        boolean before = channels[channel].isLatest;
        channels[channel].isLatest = isLatest;
        return before;
    }

    public int latestSource(int channel) throws IndexOutOfBoundsException, NoSuchElementException {
        requireChannel(channel);
        int source = channels[channel].source;
        if (source == SOURCE_NONE) {
            throw new NoSuchElementException("no source was the latest one yet");
        }
        return source;
    }

    public int baseLevel(int channel) throws IndexOutOfBoundsException {
        requireChannel(channel);
        return baseOf(channel);
    }

    // ---- effects

    public int addEffect(int group, char shape, int period, int size, int spread)
            throws IndexOutOfBoundsException, IllegalArgumentException, IllegalStateException {
        requireGroup(group);
        if (!isShape(shape) || !isWithin(period, SHORTEST_PERIOD, LONGEST_PERIOD)
                || !isWithin(size, 1, TOP_LEVEL) || !isWithin(spread, 0, WIDEST_SPREAD)) {
            throw new IllegalArgumentException("shape, period, size or spread of an effect");
        }
        if (effects.size() >= MOST_EFFECTS) {
            throw new IllegalStateException("no room for another effect");
        }
        effects.add(new Effect(groups.get(group), shape, period, size, spread));
        return effects.size() - 1;
    }

    public int startEffect(int effect) throws IndexOutOfBoundsException, IllegalStateException {
        requireEffect(effect);
        Effect started = effects.get(effect);
        if (started.isRunning) {
            throw new IllegalStateException("the effect runs");
        }
        started.isRunning = true;
        started.startedAt = now;
        return runningEffects();
    }

    public int stopEffect(int effect) throws IndexOutOfBoundsException, IllegalStateException {
        requireEffect(effect);
        Effect stopped = effects.get(effect);
        if (!stopped.isRunning) {
            throw new IllegalStateException("the effect does not run");
        }
        stopped.isRunning = false;
        return now - stopped.startedAt;
    }

    public int effectOn(int effect, int channel) throws IndexOutOfBoundsException {
        requireEffect(effect);
        requireChannel(channel);
        return givenBy(effects.get(effect), channel);
    }

    // ---- levels

    public int park(int channel, int level) throws IndexOutOfBoundsException, IllegalArgumentException {
        requireChannel(channel);
        requireLevel(level);
        return parkAt(channel, level);
    }

    public int unpark(int channel) throws IndexOutOfBoundsException, NoSuchElementException {
        requireChannel(channel);
        int before = channels[channel].parkedAt;
        if (before == NO_LEVEL) {
            throw new NoSuchElementException("the channel is not parked");
        }
        channels[channel].parkedAt = NO_LEVEL;
        return before;
    }

    public int setMaster(int level) throws IllegalArgumentException {
        requireLevel(level);
        return moveMaster(level);
    }

    public int level(int channel) throws IndexOutOfBoundsException {
        requireChannel(channel);
        fillLevelRow();
        return levelRow[channel];
    }

    public int levelAlone(int channel) throws IndexOutOfBoundsException {
        requireChannel(channel);
        int sum = baseOf(channel);
        for (int effect = 0; effect < effects.size(); effect++) {
            sum += givenBy(effects.get(effect), channel);
        }
        return outputOf(channel, sum);
    }

    public int channelByLevel(int rank) throws IndexOutOfBoundsException {
        if (!isWithin(rank, 0, CHANNELS - 1)) {
            throw new IndexOutOfBoundsException("no such rank");
        }
        fillLevelRow();
        int found = 0;
        for (int channel = 0; channel < CHANNELS; channel++) {
            if (rankInRow(channel) == rank) {
                found = channel;
            }
        }
        return found;
    }

    public long energy() {
        return energySum;
    }

    public float litShare() {
        fillLevelRow();
        int lit = 0;
        for (int channel = 0; channel < CHANNELS; channel++) {
            if (levelRow[channel] > 0) {
                lit++;
            }
        }
        return (float) lit / (float) CHANNELS;
    }

    public double meanLevel() throws ArithmeticException {
        fillLevelRow();
        int sum = 0;
        int count = 0;
        for (int channel = 0; channel < CHANNELS; channel++) {
            if (channels[channel].parkedAt == NO_LEVEL) {
                sum += levelRow[channel];
                count++;
            }
        }
        if (count == 0) {
            throw new ArithmeticException("all channels are parked");
        }
        return (double) sum / (double) count;
    }

    // ---- macros

    public int addStep(char call, int first, int second) throws IllegalArgumentException, IllegalStateException {
        if (!isStepCall(call)) {
            throw new IllegalArgumentException("no such letter");
        }
        if (steps.size() >= MOST_STEPS) {
            throw new IllegalStateException("no room for another step");
        }
        steps.add(new Step(call, first, second));
        return steps.size();
    }

    public int clearMacro() {
        int before = steps.size();
        steps.clear();
        return before;
    }

    public int runMacro() {
        lastFault = FAULT_NONE;
        for (int done = 0; done < steps.size(); done++) {
            lastFault = faultOf(steps.get(done));
            if (lastFault != FAULT_NONE) {
                return done;
            }
            doStep(steps.get(done));
        }
        return steps.size();
    }

    public char macroFault() throws NoSuchElementException {
        if (lastFault == NEVER_RUN) {
            throw new NoSuchElementException("the macro was never run");
        }
        return lastFault;
    }

    // ---- what the calls ask of their arguments

    private static boolean isWithin(int value, int least, int most) {
        return value >= least && value <= most;
    }

    private static boolean isChannel(int channel) {
        return isWithin(channel, 0, CHANNELS - 1);
    }

    private static boolean isLevel(int level) {
        return isWithin(level, 0, TOP_LEVEL);
    }

    private static boolean isPassing(int ticks) {
        return isWithin(ticks, 1, LONGEST_PASS);
    }

    private static boolean isCurve(char curve) {
        return curve == CURVE_LINEAR || curve == CURVE_SQUARE || curve == CURVE_SMOOTH;
    }

    private static boolean isShape(char shape) {
        return shape == SHAPE_SAW || shape == SHAPE_TRIANGLE || shape == SHAPE_PULSE;
    }

    private static boolean isStepCall(char call) {
        return call == STEP_GO || call == STEP_BACK || call == STEP_GO_TO || call == STEP_FADER
                || call == STEP_MASTER || call == STEP_PARK || call == STEP_PASS;
    }

    private boolean isGroup(int group) {
        return isWithin(group, 0, groups.size() - 1);
    }

    private static void requireChannel(int channel) {
        if (!isChannel(channel)) {
            throw new IndexOutOfBoundsException("no such channel");
        }
    }

    private static void requireLevel(int level) {
        if (!isLevel(level)) {
            throw new IllegalArgumentException("level out of range");
        }
    }

    private void requireGroup(int group) {
        if (!isGroup(group)) {
            throw new IndexOutOfBoundsException("no such group");
        }
    }

    private void requireEffect(int effect) {
        if (!isWithin(effect, 0, effects.size() - 1)) {
            throw new IndexOutOfBoundsException("no such effect");
        }
    }

    private int requireCue(int number) {
        if (!hasCue(number)) {
            throw new NoSuchElementException("no such cue");
        }
        return placeOf(number);
    }

    // ---- places of cues in the list

    private int placeOf(int number) {
        int place = 0;
        while (place < cueList.size() && cueList.get(place).number < number) {
            place++;
        }
        return place;
    }

    private boolean hasCue(int number) {
        int place = placeOf(number);
        return place < cueList.size() && cueList.get(place).number == number;
    }

    // No cue has the number of NOT_PLAYED or a lower one, so that the first cue is above it and none below.
    private int placeAbove() {
        return placeOf(playedNumber + 1);
    }

    private int placeBelow() {
        return placeOf(playedNumber) - 1;
    }

    private boolean hasCueAbove() {
        return placeAbove() < cueList.size();
    }

    private boolean hasCueBelow() {
        return placeBelow() >= 0;
    }

    private int trackedAt(int place, int channel) {
        for (int at = place; at >= 0; at--) {
            Cue cue = cueList.get(at);
            if (cue.changes[channel] != NO_LEVEL) {
                return cue.changes[channel];
            }
            if (cue.isBlock) {
                return 0;
            }
        }
        return 0;
    }

    // ---- what calls and steps of the macro do alike

    private void playPlace(int place) {
        Cue cue = cueList.get(place);
        for (int channel = 0; channel < CHANNELS; channel++) {
            channels[channel].follow(trackedAt(place, channel), cue.ticks, cue.curve);
        }
        playedNumber = cue.number;
    }

    private int fadingChannels() {
        int count = 0;
        for (int channel = 0; channel < CHANNELS; channel++) {
            if (channels[channel].fadeTicksLeft() > 0) {
                count++;
            }
        }
        return count;
    }

    private void passTicks(int ticks) {
        for (int tick = 0; tick < ticks; tick++) {
            now++;
            for (int channel = 0; channel < CHANNELS; channel++) {
                channels[channel].fadeOneTick();
            }
            fillLevelRow();
            for (int channel = 0; channel < CHANNELS; channel++) {
                energySum += levelRow[channel];
            }
        }
    }

    private int moveFader(int group, int level) {
        Group moved = groups.get(group);
        for (int channel = 0; channel < CHANNELS; channel++) {
            if (moved.members[channel]) {
                channels[channel].source = group;
            }
        }
        int before = moved.fader;
        moved.fader = level;
        return before;
    }

    private int moveMaster(int level) {
        int before = master;
        master = level;
        return before;
    }

    private int parkAt(int channel, int level) {
        int before = channels[channel].parkedAt;
        channels[channel].parkedAt = level;
        return before;
    }

    // ---- levels

    private int baseOf(int channel) {
        return channels[channel].isLatest ? latestLevel(channel) : highestLevel(channel);
    }

    private int latestLevel(int channel) {
        int source = channels[channel].source;
        if (source >= 0 && source < groups.size() && groups.get(source).members[channel]) {
            return groups.get(source).fader;
        }
        return channels[channel].cueLevel;
    }

    private int highestLevel(int channel) {
        int highest = channels[channel].cueLevel;
        for (int group = 0; group < groups.size(); group++) {
            if (groups.get(group).members[channel]) {
                highest = Math.max(highest, groups.get(group).fader);
            }
        }
        return highest;
    }

    private int runningEffects() {
        int count = 0;
        for (int effect = 0; effect < effects.size(); effect++) {
            if (effects.get(effect).isRunning) {
                count++;
            }
        }
        return count;
    }

    private int givenBy(Effect effect, int channel) {
        if (!effect.isRunning || !effect.group.members[channel]) {
            return 0;
        }
        return effect.valueAt(now - effect.startedAt, effect.group.membersBelow(channel));
    }

    private int outputOf(int channel, int sum) {
        if (channels[channel].parkedAt != NO_LEVEL) {
            return channels[channel].parkedAt;
        }
        return Math.min(sum, TOP_LEVEL) * master / TOP_LEVEL;
    }

    private void fillLevelRow() {
        for (int channel = 0; channel < CHANNELS; channel++) {
            levelRow[channel] = baseOf(channel);
        }
        for (int effect = 0; effect < effects.size(); effect++) {
            if (effects.get(effect).isRunning) {
                addToLevelRow(effects.get(effect));
            }
        }
        for (int channel = 0; channel < CHANNELS; channel++) {
            levelRow[channel] = outputOf(channel, levelRow[channel]);
        }
    }

    private void addToLevelRow(Effect effect) {
        int membersBelow = 0;
        for (int channel = 0; channel < CHANNELS; channel++) {
            if (effect.group.members[channel]) {
                levelRow[channel] += effect.valueAt(now - effect.startedAt, membersBelow);
                membersBelow++;
            }
        }
    }

    private int rankInRow(int channel) {
        int rank = 0;
        for (int other = 0; other < CHANNELS; other++) {
            if (levelRow[other] > levelRow[channel] || levelRow[other] == levelRow[channel] && other < channel) {
                rank++;
            }
        }
        return rank;
    }

    // ---- steps of the macro

    // A step is tested before it is done, so that a fault needs no exception to be caught.
    private char faultOf(Step step) {
        switch (step.call) {
            case STEP_GO:
                return hasCueAbove() ? FAULT_NONE : FAULT_ELEMENT;
            case STEP_BACK:
                return hasCueBelow() ? FAULT_NONE : FAULT_ELEMENT;
            case STEP_GO_TO:
                return hasCue(step.first) ? FAULT_NONE : FAULT_ELEMENT;
            case STEP_FADER:
                return faultOfLevel(isGroup(step.first), step.second);
            case STEP_PARK:
                return faultOfLevel(isChannel(step.first), step.second);
            case STEP_MASTER:
                return isLevel(step.first) ? FAULT_NONE : FAULT_ARGUMENT;
            default:
                return isPassing(step.first) ? FAULT_NONE : FAULT_ARGUMENT;
        }
    }

    private static char faultOfLevel(boolean isThere, int level) {
        if (!isThere) {
            return FAULT_INDEX;
        }
        return isLevel(level) ? FAULT_NONE : FAULT_ARGUMENT;
    }

    private void doStep(Step step) {
        switch (step.call) {
            case STEP_GO:
                playPlace(placeAbove());
                break;
            case STEP_BACK:
                playPlace(placeBelow());
                break;
            case STEP_GO_TO:
                playPlace(placeOf(step.first));
                break;
            case STEP_FADER:
                moveFader(step.first, step.second);
                break;
            case STEP_PARK:
                parkAt(step.first, step.second);
                break;
            case STEP_MASTER:
                moveMaster(step.first);
                break;
            default:
                passTicks(step.first);
                break;
        }
    }

    private static final class Cue {
        final int number;
        final int ticks;
        final char curve;
        boolean isBlock = false;
        final int[] changes = new int[CHANNELS];

        Cue(int number, int ticks, char curve) {
            this.number = number;
            this.ticks = ticks;
            this.curve = curve;
            for (int channel = 0; channel < CHANNELS; channel++) {
                changes[channel] = NO_LEVEL;
            }
        }
    }

    private static final class Channel {
        int cueLevel = 0;
        // A fade goes on as long as not all of its ticks are done.
        private int fadeTicks = 0;
        private int fadeTicksDone = 0;
        private int fadeFrom = 0;
        private int fadeTo = 0;
        private char fadeCurve = CURVE_LINEAR;
        boolean isLatest = false;
        int source = SOURCE_NONE;
        int parkedAt = NO_LEVEL;

        void follow(int tracked, int ticks, char curve) {
            fadeTicks = 0;
            fadeTicksDone = 0;
            if (cueLevel == tracked) {
                return;
            }
            source = SOURCE_CUES;
            if (ticks == 0) {
                cueLevel = tracked;
                return;
            }
            fadeTicks = ticks;
            fadeFrom = cueLevel;
            fadeTo = tracked;
            fadeCurve = curve;
        }

        int fadeTicksLeft() {
            return fadeTicks - fadeTicksDone;
        }

        void fadeOneTick() {
            if (fadeTicksDone >= fadeTicks) {
                return;
            }
            fadeTicksDone++;
            if (fadeTicksDone < fadeTicks) {
                cueLevel = fadeFrom + fadedPart(fadeTo - fadeFrom, fadeTicksDone, fadeTicks);
            } else {
                cueLevel = fadeTo;
            }
        }

        // Java's division rounds toward 0, as the document wants it for falling fades too; t is above n, so never 0.
        private int fadedPart(int difference, int n, int t) {
            switch (fadeCurve) {
                case CURVE_SQUARE:
                    return difference * (n * n) / (t * t);
                case CURVE_SMOOTH:
                    return difference * (3 * n * n * t - 2 * n * n * n) / (t * t * t);
                default:
                    return difference * n / t;
            }
        }
    }

    private static final class Group {
        final boolean[] members = new boolean[CHANNELS];
        int fader = 0;

        int membersBelow(int channel) {
            int count = 0;
            for (int lower = 0; lower < channel; lower++) {
                if (members[lower]) {
                    count++;
                }
            }
            return count;
        }
    }

    private static final class Effect {
        final Group group;
        private final char shape;
        private final int period;
        private final int size;
        private final int spread;
        boolean isRunning = false;
        int startedAt = 0;

        Effect(Group group, char shape, int period, int size, int spread) {
            this.group = group;
            this.shape = shape;
            this.period = period;
            this.size = size;
            this.spread = spread;
        }

        // The period is at least 2, so that neither it nor its half nor the rest is 0.
        int valueAt(int ticks, int membersBelow) {
            int phase = (ticks + spread * membersBelow) % period;
            int half = period / 2;
            switch (shape) {
                case SHAPE_SAW:
                    return size * phase / period;
                case SHAPE_PULSE:
                    return phase < half ? size : 0;
                default:
                    return phase <= half ? size * phase / half : size * (period - phase) / (period - half);
            }
        }
    }

    private static final class Step {
        final char call;
        final int first;
        final int second;

        Step(char call, int first, int second) {
            this.call = call;
            this.first = first;
            this.second = second;
        }
    }
}
