import java.lang.reflect.Constructor;
import java.lang.reflect.Field;
import java.lang.reflect.Method;
import java.lang.reflect.Modifier;
import java.util.HashSet;
import java.util.NoSuchElementException;
import java.util.Set;
import java.util.TreeSet;

/** Promise 1, and the members that the document and LANGUAGE.md allow. */
final class FaceTests {
    static final String[] FACE = {
        "int addCue(int,int,char) IllegalArgumentException UnsupportedOperationException IllegalStateException",
        "int removeCue(int) NoSuchElementException",
        "int setChange(int,int,int) NoSuchElementException IndexOutOfBoundsException IllegalArgumentException",
        "int removeChange(int,int) NoSuchElementException IndexOutOfBoundsException",
        "boolean setBlock(int,boolean) NoSuchElementException",
        "int trackedLevel(int,int) NoSuchElementException IndexOutOfBoundsException",
        "int cues()",
        "int go() NoSuchElementException",
        "int back() NoSuchElementException",
        "int goTo(int) NoSuchElementException",
        "int pass(int) IllegalArgumentException",
        "int currentCue()",
        "int cueLevel(int) IndexOutOfBoundsException",
        "int ticksLeft()",
        "int addGroup() IllegalStateException",
        "boolean setMember(int,int,boolean) IndexOutOfBoundsException",
        "int setFader(int,int) IndexOutOfBoundsException IllegalArgumentException",
        "boolean setLatest(int,boolean) IndexOutOfBoundsException",
        "int latestSource(int) IndexOutOfBoundsException NoSuchElementException",
        "int baseLevel(int) IndexOutOfBoundsException",
        "int addEffect(int,char,int,int,int) IndexOutOfBoundsException IllegalArgumentException IllegalStateException",
        "int startEffect(int) IndexOutOfBoundsException IllegalStateException",
        "int stopEffect(int) IndexOutOfBoundsException IllegalStateException",
        "int effectOn(int,int) IndexOutOfBoundsException",
        "int park(int,int) IndexOutOfBoundsException IllegalArgumentException",
        "int unpark(int) IndexOutOfBoundsException NoSuchElementException",
        "int setMaster(int) IllegalArgumentException",
        "int level(int) IndexOutOfBoundsException",
        "int levelAlone(int) IndexOutOfBoundsException",
        "int channelByLevel(int) IndexOutOfBoundsException",
        "long energy()",
        "float litShare()",
        "double meanLevel() ArithmeticException",
        "int addStep(char,int,int) IllegalArgumentException IllegalStateException",
        "int clearMacro()",
        "int runMacro()",
        "char macroFault() NoSuchElementException",
    };

    static void run(Check check) {
        face(check);
        members(check);
        newObject(check);
    }

    private static void face(Check check) {
        Set<String> due = new TreeSet<>(Set.of(FACE));
        Set<String> got = new TreeSet<>();
        for (Method method : StageConsole.class.getDeclaredMethods()) {
            if (Modifier.isPublic(method.getModifiers())) {
                got.add(signature(method));
            }
        }
        check.same("public methods", due, got);
        check.same("public and final", Modifier.PUBLIC | Modifier.FINAL, StageConsole.class.getModifiers());
        check.same("constructors", 1, StageConsole.class.getDeclaredConstructors().length);
        for (Constructor<?> constructor : StageConsole.class.getDeclaredConstructors()) {
            check.same("public constructor", "public StageConsole()", constructor.toString());
        }
    }

    private static String signature(Method method) {
        StringBuilder text = new StringBuilder();
        text.append(method.getReturnType().getSimpleName()).append(' ').append(method.getName()).append('(');
        String comma = "";
        for (Class<?> type : method.getParameterTypes()) {
            text.append(comma).append(type.getSimpleName());
            comma = ",";
        }
        text.append(')');
        for (Class<?> type : method.getExceptionTypes()) {
            text.append(' ').append(type.getSimpleName());
        }
        return text.toString();
    }

    private static void members(Check check) {
        Set<String> open = new HashSet<>();
        for (Method method : StageConsole.class.getDeclaredMethods()) {
            if (Modifier.isPublic(method.getModifiers())) {
                open.add(method.getName());
            }
        }
        for (Method method : StageConsole.class.getDeclaredMethods()) {
            boolean isOpen = Modifier.isPublic(method.getModifiers());
            check.same("private or of the face: " + method, true, isOpen || Modifier.isPrivate(method.getModifiers()));
            check.same("a name of its own: " + method, true, isOpen || !open.contains(method.getName()));
            check.same("at most seven parameters: " + method, true, method.getParameterCount() <= 7);
        }
        for (Field field : StageConsole.class.getDeclaredFields()) {
            int modifiers = field.getModifiers();
            check.same("private: " + field, true, Modifier.isPrivate(modifiers));
            check.same("no static state: " + field, true, !Modifier.isStatic(modifiers) || Modifier.isFinal(modifiers));
        }
        check.same("few classes", true, StageConsole.class.getDeclaredClasses().length <= 12);
    }

    private static void newObject(Check check) {
        StageConsole x = new StageConsole();
        check.is("new cues", 0, () -> x.cues());
        check.is("new currentCue", 0, () -> x.currentCue());
        check.is("new ticksLeft", 0, () -> x.ticksLeft());
        check.is("new energy", 0L, () -> x.energy());
        check.is("new litShare", 0.0f, () -> x.litShare());
        check.is("new meanLevel", 0.0, () -> x.meanLevel());
        for (int channel = 0; channel < 12; channel++) {
            int c = channel;
            check.is("new cueLevel", 0, () -> x.cueLevel(c));
            check.is("new baseLevel", 0, () -> x.baseLevel(c));
            check.is("new level", 0, () -> x.level(c));
            check.is("new levelAlone", 0, () -> x.levelAlone(c));
            check.is("new channelByLevel", c, () -> x.channelByLevel(c));
            check.fails("new latestSource", NoSuchElementException.class, () -> x.latestSource(c));
            check.fails("new unpark", NoSuchElementException.class, () -> x.unpark(c));
            check.is("new setLatest", false, () -> x.setLatest(c, true));
        }
        check.fails("new group 0", IndexOutOfBoundsException.class, () -> x.setFader(0, 0));
        check.fails("new effect 0", IndexOutOfBoundsException.class, () -> x.effectOn(0, 0));
        check.fails("new macroFault", NoSuchElementException.class, () -> x.macroFault());
        check.is("new clearMacro", 0, () -> x.clearMacro());
        check.is("new setMaster", 255, () -> x.setMaster(255));
        check.is("new pass", 1, () -> x.pass(1));
    }
}
