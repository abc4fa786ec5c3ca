import java.util.Set;
import java.util.TreeSet;

/** Counts the answers that are due and tells those that are not. */
final class Check {
    interface Call {
        Object answer();
    }

    private int passed = 0;
    private int failed = 0;
    private String heading = "";
    private int passedBefore = 0;
    private int failedBefore = 0;
    private int sentences = 0;
    private final Set<Integer> promises = new TreeSet<>();

    /** Names the promise and the sentence of the document that the checks after it are about. */
    void about(int promise, String sentence) {
        endSentence();
        heading = "promise " + promise + ", \"" + sentence + "\"";
        sentences++;
        promises.add(promise);
    }

    /** Ends the checks of a sentence; one without any check is a fault of the tests. */
    void endSentence() {
        String ended = heading;
        heading = "";
        if (!ended.isEmpty() && passed == passedBefore && failed == failedBefore) {
            same(ended, "a check", "none");
        }
        passedBefore = passed;
        failedBefore = failed;
    }

    Set<Integer> promises() {
        return promises;
    }

    void is(String what, Object due, Call call) {
        same(what, due, answerOf(call));
    }

    // The class must be the very one that is due: an index that the machine refuses has a class below it.
    void fails(String what, Class<? extends RuntimeException> due, Call call) {
        is(what, due, call);
    }

    void same(String what, Object due, Object got) {
        if (due.equals(got)) {
            passed++;
        } else {
            failed++;
            System.out.println((heading.isEmpty() ? "" : heading + ": ") + what + ": due is " + due + ", got " + got);
        }
    }

    /** What a call answers, or the class that it throws. */
    static Object answerOf(Call call) {
        try {
            return call.answer();
        } catch (RuntimeException e) {
            return thrown(e);
        }
    }

    // The program must throw by itself: what a list or the machine throws for it is told apart here.
    static Object thrown(Throwable e) {
        StackTraceElement[] frames = e.getStackTrace();
        boolean isOwn = frames.length > 0 && frames[0].getClassName().equals("StageConsole");
        return isOwn ? e.getClass() : e + " not thrown by StageConsole";
    }

    boolean tell() {
        System.out.println(sentences + " sentences with a boundary case; " + passed + " passed, " + failed + " failed");
        return failed == 0 && passed > 0;
    }
}
