import java.util.ArrayList;
import java.util.Comparator;
import java.util.HashMap;
import java.util.List;
import java.util.Map;
import java.util.NoSuchElementException;
import java.util.TreeMap;

/**
 * The document read once more, word by word and with no regard for speed: nothing moves with the ticks, but each level
 * is worked out from what was noted when it began, and a macro makes the calls themselves.
 */
public final class Model {
    private static final class Cue {
        int ticks;
        char curve;
        boolean isBlock;
        Map<Integer, Integer> changes = new HashMap<>();
    }

    private record Fade(long begin, int from, int to, int ticks, char curve) { }

    private record Effect(int group, char shape, int period, int size, int spread) { }

    private record Step(char call, int first, int second) { }

    private final TreeMap<Integer, Cue> cues = new TreeMap<>();
    private final Map<Integer, Fade> lastFades = new HashMap<>();
    private final List<Map<Integer, Boolean>> members = new ArrayList<>();
    private final List<Integer> faders = new ArrayList<>();
    private final Map<Integer, Boolean> latest = new HashMap<>();
    private final Map<Integer, Integer> sources = new HashMap<>();
    private final List<Effect> effects = new ArrayList<>();
    private final Map<Integer, Long> starts = new TreeMap<>();
    private final Map<Integer, Integer> parked = new HashMap<>();
    private final List<Step> steps = new ArrayList<>();
    private int current = 0;
    private long time = 0;
    private long energy = 0;
    private int master = 255;
    private Character fault = null;

    private static void range(int value, int least, int most) {
        if (value < least || value > most) {
            throw new IllegalArgumentException();
        }
    }

    private static void index(int value, int size) {
        if (value < 0 || value >= size) {
            throw new IndexOutOfBoundsException();
        }
    }

    private static void letter(char value, String letters) {
        if (letters.indexOf(value) < 0) {
            throw new IllegalArgumentException();
        }
    }

    private static void there(boolean isThere) {
        if (!isThere) {
            throw new NoSuchElementException();
        }
    }

    private static void state(boolean isFit) {
        if (!isFit) {
            throw new IllegalStateException();
        }
    }

    public int addCue(int number, int ticks, char curve) {
        range(number, 1, 99);
        range(ticks, 0, 40);
        letter(curve, "lqs");
        if (cues.containsKey(number)) {
            throw new UnsupportedOperationException();
        }
        state(cues.size() < 16);
        Cue cue = new Cue();
        cue.ticks = ticks;
        cue.curve = curve;
        cues.put(number, cue);
        return cues.size();
    }

    public int removeCue(int number) {
        there(cues.containsKey(number));
        cues.remove(number);
        return cues.size();
    }

    public int setChange(int number, int channel, int level) {
        there(cues.containsKey(number));
        index(channel, 12);
        range(level, 0, 255);
        Integer before = cues.get(number).changes.put(channel, level);
        return before == null ? -1 : before;
    }

    public int removeChange(int number, int channel) {
        there(cues.containsKey(number));
        index(channel, 12);
        there(cues.get(number).changes.containsKey(channel));
        return cues.get(number).changes.remove(channel);
    }

    public boolean setBlock(int number, boolean isBlock) {
        there(cues.containsKey(number));
        boolean before = cues.get(number).isBlock;
        cues.get(number).isBlock = isBlock;
        return before;
    }

    public int trackedLevel(int number, int channel) {
        there(cues.containsKey(number));
        index(channel, 12);
        Cue cue = cues.get(number);
        if (cue.changes.containsKey(channel)) {
            return cue.changes.get(channel);
        }
        Integer lower = cues.lowerKey(number);
        return cue.isBlock || lower == null ? 0 : trackedLevel(lower, channel);
    }

    public int cues() {
        return cues.size();
    }

    private int play(Integer number) {
        there(number != null && cues.containsKey(number));
        Cue cue = cues.get(number);
        for (int channel = 0; channel < 12; channel++) {
            int from = cueLevel(channel);
            int to = trackedLevel(number, channel);
            if (from == to) {
                lastFades.put(channel, new Fade(time, to, to, 0, 'l'));
            } else {
                lastFades.put(channel, new Fade(time, from, to, cue.ticks, cue.curve));
                sources.put(channel, -1);
            }
        }
        current = number;
        return number;
    }

    public int go() {
        return play(cues.higherKey(current));
    }

    public int back() {
        there(current != 0);
        return play(cues.lowerKey(current));
    }

    public int goTo(int number) {
        play(number);
        int count = 0;
        for (Fade fade : lastFades.values()) {
            count += fade.ticks > 0 ? 1 : 0;
        }
        return count;
    }

    public int pass(int ticks) {
        range(ticks, 1, 100);
        for (int tick = 0; tick < ticks; tick++) {
            time++;
            for (int channel = 0; channel < 12; channel++) {
                energy += levelAlone(channel);
            }
        }
        return (int) time;
    }

    public int currentCue() {
        return current;
    }

    public int cueLevel(int channel) {
        index(channel, 12);
        Fade fade = lastFades.get(channel);
        if (fade == null) {
            return 0;
        }
        long n = time - fade.begin;
        long t = fade.ticks;
        if (n >= t) {
            return fade.to;
        }
        long size = Math.abs(fade.to - fade.from);
        long part = switch (fade.curve) {
            case 'l' -> Math.floorDiv(size * n, t);
            case 'q' -> Math.floorDiv(size * n * n, t * t);
            default -> Math.floorDiv(size * (3 * n * n * t - 2 * n * n * n), t * t * t);
        };
        return (int) (fade.to > fade.from ? fade.from + part : fade.from - part);
    }

    public int ticksLeft() {
        long left = 0;
        for (Fade fade : lastFades.values()) {
            left = Math.max(left, fade.begin + fade.ticks - time);
        }
        return (int) left;
    }

    public int addGroup() {
        state(faders.size() < 5);
        faders.add(0);
        members.add(new TreeMap<>());
        return faders.size() - 1;
    }

    private boolean isMember(int group, int channel) {
        return members.get(group).getOrDefault(channel, false);
    }

    public boolean setMember(int group, int channel, boolean isMember) {
        index(group, faders.size());
        index(channel, 12);
        Boolean before = members.get(group).put(channel, isMember);
        return before != null && before;
    }

    public int setFader(int group, int level) {
        index(group, faders.size());
        range(level, 0, 255);
        for (int channel = 0; channel < 12; channel++) {
            if (isMember(group, channel)) {
                sources.put(channel, group);
            }
        }
        return faders.set(group, level);
    }

    public boolean setLatest(int channel, boolean isLatest) {
        index(channel, 12);
        Boolean before = latest.put(channel, isLatest);
        return before != null && before;
    }

    public int latestSource(int channel) {
        index(channel, 12);
        there(sources.containsKey(channel));
        return sources.get(channel);
    }

    public int baseLevel(int channel) {
        index(channel, 12);
        int base = cueLevel(channel);
        if (latest.getOrDefault(channel, false)) {
            int source = sources.getOrDefault(channel, -1);
            return source >= 0 && isMember(source, channel) ? faders.get(source) : base;
        }
        for (int group = 0; group < faders.size(); group++) {
            base = isMember(group, channel) ? Math.max(base, faders.get(group)) : base;
        }
        return base;
    }

    public int addEffect(int group, char shape, int period, int size, int spread) {
        index(group, faders.size());
        letter(shape, "wtq");
        range(period, 2, 40);
        range(size, 1, 255);
        range(spread, 0, 39);
        state(effects.size() < 4);
        effects.add(new Effect(group, shape, period, size, spread));
        return effects.size() - 1;
    }

    public int startEffect(int effect) {
        index(effect, effects.size());
        state(!starts.containsKey(effect));
        starts.put(effect, time);
        return starts.size();
    }

    public int stopEffect(int effect) {
        index(effect, effects.size());
        state(starts.containsKey(effect));
        return (int) (time - starts.remove(effect));
    }

    public int effectOn(int effect, int channel) {
        index(effect, effects.size());
        index(channel, 12);
        Effect it = effects.get(effect);
        if (!starts.containsKey(effect) || !isMember(it.group, channel)) {
            return 0;
        }
        long sum = time - starts.get(effect);
        for (int lower = 0; lower < channel; lower++) {
            sum += isMember(it.group, lower) ? it.spread : 0;
        }
        int phase = (int) Math.floorMod(sum, (long) it.period);
        int h = Math.floorDiv(it.period, 2);
        if (it.shape == 'w') {
            return Math.floorDiv(it.size * phase, it.period);
        }
        if (it.shape == 't') {
            return phase <= h
                ? Math.floorDiv(it.size * phase, h) : Math.floorDiv(it.size * (it.period - phase), it.period - h);
        }
        return phase < h ? it.size : 0;
    }

    public int park(int channel, int level) {
        index(channel, 12);
        range(level, 0, 255);
        Integer before = parked.put(channel, level);
        return before == null ? -1 : before;
    }

    public int unpark(int channel) {
        index(channel, 12);
        there(parked.containsKey(channel));
        return parked.remove(channel);
    }

    public int setMaster(int level) {
        range(level, 0, 255);
        int before = master;
        master = level;
        return before;
    }

    public int level(int channel) {
        return levelAlone(channel);
    }

    public int levelAlone(int channel) {
        index(channel, 12);
        if (parked.containsKey(channel)) {
            return parked.get(channel);
        }
        int sum = baseLevel(channel);
        for (int effect : starts.keySet()) {
            sum += effectOn(effect, channel);
        }
        return Math.floorDiv(Math.min(sum, 255) * master, 255);
    }

    public int channelByLevel(int rank) {
        index(rank, 12);
        List<Integer> order = new ArrayList<>();
        for (int channel = 0; channel < 12; channel++) {
            order.add(channel);
        }
        order.sort(Comparator.comparing(this::levelAlone).reversed().thenComparing(Comparator.naturalOrder()));
        return order.get(rank);
    }

    public long energy() {
        return energy;
    }

    public float litShare() {
        float lit = 0;
        for (int channel = 0; channel < 12; channel++) {
            lit += levelAlone(channel) > 0 ? 1 : 0;
        }
        return lit / 12;
    }

    public double meanLevel() {
        if (parked.size() == 12) {
            throw new ArithmeticException();
        }
        double sum = 0;
        for (int channel = 0; channel < 12; channel++) {
            sum += parked.containsKey(channel) ? 0 : levelAlone(channel);
        }
        return sum / (12 - parked.size());
    }

    public int addStep(char call, int first, int second) {
        letter(call, "gbtfmpw");
        state(steps.size() < 8);
        steps.add(new Step(call, first, second));
        return steps.size();
    }

    public int clearMacro() {
        int before = steps.size();
        steps.clear();
        return before;
    }

    public int runMacro() {
        fault = 'n';
        int done = 0;
        for (Step step : steps) {
            try {
                run(step);
                done++;
            } catch (IndexOutOfBoundsException e) {
                fault = 'i';
                break;
            } catch (IllegalArgumentException e) {
                fault = 'a';
                break;
            } catch (NoSuchElementException e) {
                fault = 'e';
                break;
            }
        }
        return done;
    }

    private void run(Step step) {
        switch (step.call) {
            case 'g' -> go();
            case 'b' -> back();
            case 't' -> goTo(step.first);
            case 'f' -> setFader(step.first, step.second);
            case 'm' -> setMaster(step.first);
            case 'p' -> park(step.first, step.second);
            default -> pass(step.first);
        }
    }

    public char macroFault() {
        there(fault != null);
        return fault;
    }
}
