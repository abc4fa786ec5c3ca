/**
 * A call that must be refused, and that must have changed nothing: of two consoles made alike, one is given the call,
 * and then both are asked the same; none of the later answers may tell them apart.
 */
final class Twins {
    interface Maker {
        StageConsole make();
    }

    interface Act {
        Object on(StageConsole x);
    }

    static void refuse(Check check, String what, Class<? extends RuntimeException> due, Maker maker, Act act) {
        for (int kind = 0; kind < Views.KINDS; kind++) {
            StageConsole asked = maker.make();
            check.fails(what, due, () -> act.on(asked));
            check.same(what + " changes nothing", Views.of(kind, maker.make()), Views.of(kind, asked));
        }
    }

    /** The same for a call that answers and that must leave all else as it was. */
    static void keep(Check check, String what, Object due, Maker maker, Act act) {
        for (int kind = 0; kind < Views.KINDS; kind++) {
            StageConsole asked = maker.make();
            check.is(what, due, () -> act.on(asked));
            check.same(what + " changes nothing", Views.of(kind, maker.make()), Views.of(kind, asked));
        }
    }

    // Next to the range on each side, then far away, then such as would be within it if they were cut to fewer bits.
    static int[] outside(int least, int most) {
        return new int[] {least - 1, most + 1, Integer.MIN_VALUE, Integer.MAX_VALUE, -1000,
            least - 256, most + 256, least + 65536, most - 65536};
    }
}
