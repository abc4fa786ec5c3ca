/** Promises 22 to 25. */
final class EffectTests {
    static void run(Check check) {
        addEffect(check);
        startAndStop(check);
        shapes(check);
        phases(check);
        effectOn(check);
    }

    private static StageConsole withGroup() {
        StageConsole x = new StageConsole();
        x.addGroup();
        return x;
    }

    private static void addEffect(Check check) {
        StageConsole x = withGroup();
        check.is("addEffect least", 0, () -> x.addEffect(0, 'w', 2, 1, 0));
        check.is("addEffect most", 1, () -> x.addEffect(0, 't', 40, 255, 39));
        int[][] wrong = {{1, 9, 0}, {41, 9, 0}, {0, 9, 0}, {-2, 9, 0}, {5, 0, 0}, {5, 256, 0}, {5, -1, 0}, {5, 9, -1},
            {5, 9, 40}, {Integer.MAX_VALUE, 9, 0}, {5, Integer.MIN_VALUE, 0}, {5, 9, Integer.MAX_VALUE}};
        for (int[] row : wrong) {
            check.fails("addEffect " + row[0] + " " + row[1] + " " + row[2], IllegalArgumentException.class,
                () -> x.addEffect(0, 'q', row[0], row[1], row[2]));
        }
        for (char shape : new char[] {'l', 's', 'W', ' ', 0, 'p', 'r', 'u', 'v', 'x', 65535}) {
            check.fails("addEffect shape " + (int) shape, IllegalArgumentException.class,
                () -> x.addEffect(0, shape, 5, 9, 0));
        }
        check.fails("addEffect no group", IndexOutOfBoundsException.class, () -> x.addEffect(1, 'q', 5, 9, 0));
        check.fails("addEffect no group", IndexOutOfBoundsException.class, () -> x.addEffect(-1, 'q', 5, 9, 0));
        check.fails("addEffect no group first", IndexOutOfBoundsException.class, () -> x.addEffect(1, 'x', 1, 0, -1));
        check.is("addEffect third", 2, () -> x.addEffect(0, 'q', 5, 9, 0));
        check.is("addEffect fourth", 3, () -> x.addEffect(0, 'q', 5, 9, 0));
        check.fails("addEffect fifth", IllegalStateException.class, () -> x.addEffect(0, 'q', 5, 9, 0));
        check.fails("addEffect fifth, wrong", IllegalArgumentException.class, () -> x.addEffect(0, 'q', 5, 9, 40));
        check.fails("addEffect fifth, no group", IndexOutOfBoundsException.class, () -> x.addEffect(1, 'q', 5, 9, 0));
        check.fails("no fifth effect", IndexOutOfBoundsException.class, () -> x.startEffect(4));
    }

    private static void startAndStop(Check check) {
        StageConsole x = withGroup();
        check.fails("startEffect of none", IndexOutOfBoundsException.class, () -> x.startEffect(0));
        check.fails("stopEffect of none", IndexOutOfBoundsException.class, () -> x.stopEffect(0));
        x.addEffect(0, 'q', 5, 9, 0);
        x.addEffect(0, 'w', 5, 9, 0);
        check.fails("a new one does not run", IllegalStateException.class, () -> x.stopEffect(0));
        check.is("startEffect", 1, () -> x.startEffect(0));
        check.fails("startEffect twice", IllegalStateException.class, () -> x.startEffect(0));
        check.is("stopEffect at once", 0, () -> x.stopEffect(0));
        check.is("startEffect again", 1, () -> x.startEffect(0));
        x.pass(7);
        check.is("startEffect second", 2, () -> x.startEffect(1));
        check.fails("startEffect runs", IllegalStateException.class, () -> x.startEffect(0));
        x.pass(100);
        check.is("stopEffect first", 107, () -> x.stopEffect(0));
        check.fails("stopEffect twice", IllegalStateException.class, () -> x.stopEffect(0));
        check.is("stopEffect second", 100, () -> x.stopEffect(1));
        check.fails("stopEffect below", IndexOutOfBoundsException.class, () -> x.stopEffect(-1));
        check.fails("startEffect below", IndexOutOfBoundsException.class, () -> x.startEffect(-1));
        check.fails("stopEffect above", IndexOutOfBoundsException.class, () -> x.stopEffect(2));
        check.fails("startEffect above", IndexOutOfBoundsException.class, () -> x.startEffect(2));
    }

    private static void shapes(Check check) {
        shape(check, 'w', 7, 100, new int[] {0, 14, 28, 42, 57, 71, 85, 0});
        shape(check, 't', 7, 100, new int[] {0, 33, 66, 100, 75, 50, 25, 0});
        shape(check, 'q', 7, 100, new int[] {100, 100, 100, 0, 0, 0, 0, 100});
        shape(check, 'w', 2, 255, new int[] {0, 127, 0, 127});
        shape(check, 't', 2, 255, new int[] {0, 255, 0, 255});
        shape(check, 'q', 2, 255, new int[] {255, 0, 255, 0});
        shape(check, 't', 3, 10, new int[] {0, 10, 5, 0});
        shape(check, 't', 8, 9, new int[] {0, 2, 4, 6, 9, 6, 4, 2, 0});
        shape(check, 'w', 3, 1, new int[] {0, 0, 0, 0});
    }

    private static void shape(Check check, char shape, int period, int size, int[] due) {
        StageConsole x = withGroup();
        x.setMember(0, 5, true);
        x.addEffect(0, shape, period, size, 0);
        x.pass(3);
        x.startEffect(0);
        for (int value : due) {
            check.is("shape " + shape + " of " + period, value, () -> x.effectOn(0, 5));
            check.is("its level", value, () -> x.level(5));
            x.pass(1);
        }
    }

    private static void phases(Check check) {
        StageConsole x = withGroup();
        x.addGroup();
        x.setMember(0, 1, true);
        x.setMember(0, 4, true);
        x.setMember(0, 11, true);
        x.setMember(1, 0, true);
        x.addEffect(0, 'w', 10, 100, 3);
        x.startEffect(0);
        check.is("first member", 0, () -> x.effectOn(0, 1));
        check.is("second member", 30, () -> x.effectOn(0, 4));
        check.is("third member", 60, () -> x.effectOn(0, 11));
        check.is("second member's level", 30, () -> x.level(4));
        check.is("third member's level", 60, () -> x.level(11));
        check.is("third member's level alone", 60, () -> x.levelAlone(11));
        x.pass(5);
        check.is("third member around", 10, () -> x.effectOn(0, 11));
        x.setMember(0, 1, false);
        check.is("members now count", 50, () -> x.effectOn(0, 4));
        check.is("members now count", 80, () -> x.effectOn(0, 11));
        check.is("not a member", 0, () -> x.effectOn(0, 1));
        x.setMember(0, 0, true);
        x.setMember(0, 2, true);
        check.is("two members below", 10, () -> x.effectOn(0, 4));
        x.stopEffect(0);
        check.is("stopped", 0, () -> x.effectOn(0, 4));
        x.startEffect(0);
        check.is("started again from its begin", 0, () -> x.effectOn(0, 0));
        check.is("started again, spread", 60, () -> x.effectOn(0, 4));
    }

    private static void effectOn(Check check) {
        StageConsole x = withGroup();
        x.setMember(0, 0, true);
        check.fails("effectOn no effect", IndexOutOfBoundsException.class, () -> x.effectOn(0, 0));
        x.addEffect(0, 'q', 4, 50, 0);
        check.is("it does not run", 0, () -> x.effectOn(0, 0));
        x.startEffect(0);
        check.is("it runs", 50, () -> x.effectOn(0, 0));
        check.is("not a member", 0, () -> x.effectOn(0, 11));
        check.fails("effectOn no effect", IndexOutOfBoundsException.class, () -> x.effectOn(1, 0));
        check.fails("effectOn no effect", IndexOutOfBoundsException.class, () -> x.effectOn(-1, 0));
        check.fails("effectOn no channel", IndexOutOfBoundsException.class, () -> x.effectOn(0, 12));
        check.fails("effectOn no channel", IndexOutOfBoundsException.class, () -> x.effectOn(0, -1));
        x.park(0, 3);
        x.setMaster(0);
        check.is("neither parking nor master matter", 50, () -> x.effectOn(0, 0));
    }
}
