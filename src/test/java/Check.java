/** Counts the answers that are due and tells those that are not. */
final class Check {
    interface Call {
        Object answer();
    }

    private int passed = 0;
    private int failed = 0;

    void is(String what, Object due, Call call) {
        Object got;
        try {
            got = call.answer();
        } catch (RuntimeException e) {
            got = thrown(e);
        }
        same(what, due, got);
    }

    // The program must throw by itself: what a list or the machine throws for it is told apart here.
    static Object thrown(Throwable e) {
        StackTraceElement[] frames = e.getStackTrace();
        boolean isOwn = frames.length > 0 && frames[0].getClassName().equals("StageConsole");
        return isOwn ? e.getClass() : e + " not thrown by StageConsole";
    }

    // The class must be the very one that is due: an index that the machine refuses has a class below it.
    void fails(String what, Class<? extends RuntimeException> due, Call call) {
        is(what, due, call);
    }

    void same(String what, Object due, Object got) {
        if (due.equals(got)) {
            passed++;
        } else {
            failed++;
            System.out.println(what + ": due is " + due + ", got " + got);
        }
    }

    boolean tell() {
        System.out.println(passed + " passed, " + failed + " failed");
        return failed == 0 && passed > 0;
    }
}
