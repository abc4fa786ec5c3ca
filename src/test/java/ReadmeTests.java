import java.io.IOException;
import java.nio.file.Files;
import java.nio.file.Path;
import java.util.ArrayList;
import java.util.List;

/** README.md lists each call of the face once, in the order of the document, with as many arguments as it takes. */
final class ReadmeTests {
    private static final String ROW = "| `";

    static void run(Check check) {
        List<String> due = new ArrayList<>();
        for (String signature : FaceTests.FACE) {
            String call = signature.substring(signature.indexOf(' ') + 1, signature.indexOf(')') + 1);
            due.add(withCount(call));
        }
        check.same("the calls in README.md", due, listed());
    }

    private static List<String> listed() {
        List<String> calls = new ArrayList<>();
        for (String line : lines()) {
            if (line.startsWith(ROW)) {
                calls.add(withCount(line.substring(ROW.length(), line.indexOf(')') + 1)));
            }
        }
        return calls;
    }

    private static List<String> lines() {
        try {
            return Files.readAllLines(Path.of("README.md"));
        } catch (IOException e) {
            return List.of();
        }
    }

    private static String withCount(String call) {
        int open = call.indexOf('(');
        String arguments = call.substring(open + 1, call.length() - 1);
        return call.substring(0, open) + " takes " + (arguments.isEmpty() ? 0 : arguments.split(",").length);
    }
}
