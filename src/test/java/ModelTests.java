import java.lang.reflect.InvocationTargetException;
import java.lang.reflect.Method;

/** Long runs of calls on a console and on the model; each answer must be the same, also after calls that fail. */
final class ModelTests {
    private static final int RUNS = 300;
    private static final int CALLS = 512;

    // A call, how often it comes, and what its arguments are: see argument().
    private static final String[] CALLS_TO_MAKE = {
        "addCue 6 N T U", "removeCue 2 N", "setChange 14 N C L", "removeChange 3 N C", "setBlock 3 N B",
        "trackedLevel 5 N C", "cues 1", "go 8", "back 5", "goTo 6 N", "pass 10 P", "currentCue 2", "cueLevel 8 C",
        "ticksLeft 3", "addGroup 2", "setMember 8 G C B", "setFader 7 G L", "setLatest 4 C B", "latestSource 5 C",
        "baseLevel 6 C", "addEffect 2 G W D L S", "startEffect 3 E", "stopEffect 2 E", "effectOn 6 E C",
        "park 2 C L", "unpark 3 C", "setMaster 2 L", "level 8 C", "levelAlone 5 C", "channelByLevel 6 C", "energy 3",
        "litShare 3", "meanLevel 3", "addStep 4 M X L", "clearMacro 1", "runMacro 3", "macroFault 2",
    };

    private long seed;

    private ModelTests(int run) {
        seed = run * 7919L + 17;
    }

    static void run(Check check) {
        for (int run = 0; run < RUNS; run++) {
            check.same("run " + run + " on the model", "as due", new ModelTests(run).compare());
        }
    }

    // A generator of its own, so that each run is the same each time.
    private int next(int bound) {
        seed = seed * 6364136223846793005L + 1442695040888963407L;
        return (int) ((seed >>> 33) % bound);
    }

    private String compare() {
        StageConsole console = new StageConsole();
        Model model = new Model();
        StringBuilder calls = new StringBuilder();
        for (int call = 0; call < CALLS; call++) {
            String[] words = pick().split(" ");
            Object[] arguments = new Object[words.length - 2];
            Class<?>[] types = new Class<?>[arguments.length];
            calls.append(words[0]);
            for (int i = 0; i < arguments.length; i++) {
                arguments[i] = argument(words[i + 2].charAt(0));
                types[i] = arguments[i] instanceof Integer ? int.class
                    : arguments[i] instanceof Boolean ? boolean.class : char.class;
                calls.append(' ').append(arguments[i]);
            }
            calls.append('\n');
            Object due = answer(model, words[0], types, arguments);
            Object got = answer(console, words[0], types, arguments);
            if (!due.equals(got)) {
                return calls + "due " + due + ", got " + got;
            }
        }
        return "as due";
    }

    private String pick() {
        int sum = 0;
        for (String row : CALLS_TO_MAKE) {
            sum += Integer.parseInt(row.split(" ")[1]);
        }
        int left = next(sum);
        for (String row : CALLS_TO_MAKE) {
            left -= Integer.parseInt(row.split(" ")[1]);
            if (left < 0) {
                return row;
            }
        }
        return "cues 1";
    }

    private Object argument(char kind) {
        boolean isOdd = next(40) == 0;
        switch (kind) {
            case 'N': return isOdd ? number(100) : 1 + next(24) * (next(10) == 0 ? 4 : 1);
            case 'T': return isOdd ? number(41) : next(4) == 0 ? 0 : next(41);
            case 'C': return isOdd ? number(12) : next(12);
            case 'L': return isOdd ? number(256) : next(6) == 0 ? next(2) * 255 : next(256);
            case 'P': return isOdd ? number(101) : 1 + next(next(5) == 0 ? 100 : 12);
            case 'G': return isOdd ? number(5) : next(3);
            case 'E': return isOdd ? number(4) : next(4);
            case 'D': return isOdd ? number(41) : 2 + next(39);
            case 'S': return isOdd ? number(40) : next(40);
            case 'X': return isOdd ? number(256) : next(16);
            case 'U': return letter(isOdd, "lqs");
            case 'W': return letter(isOdd, "wtq");
            case 'M': return letter(isOdd, "gbtfmpw");
            default: return next(2) == 0;
        }
    }

    private int number(int edge) {
        int[] odd = {-1, 0, edge - 1, edge, edge + 1, Integer.MIN_VALUE, Integer.MAX_VALUE};
        return odd[next(odd.length)];
    }

    private char letter(boolean isOdd, String letters) {
        return isOdd ? (char) next(65536) : letters.charAt(next(letters.length()));
    }

    private static Object answer(Object console, String name, Class<?>[] types, Object[] arguments) {
        try {
            Method method = console.getClass().getMethod(name, types);
            return method.invoke(console, arguments);
        } catch (InvocationTargetException e) {
            return console instanceof Model ? e.getCause().getClass() : Check.thrown(e.getCause());
        } catch (ReflectiveOperationException e) {
            throw new IllegalStateException(e);
        }
    }
}
