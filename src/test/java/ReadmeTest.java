import java.io.IOException;
import java.nio.file.Files;
import java.nio.file.Path;
import java.util.Arrays;
import java.util.regex.Matcher;
import java.util.regex.Pattern;

/** README.md's example answers what README.md says, and its table names every call of the face. */
public final class ReadmeTest {
    private static final Pattern TOLD = Pattern.compile("String told = \"(.*)\";");
    private static final Pattern CALL = Pattern.compile("(?m)^x\\.(\\w+)\\(([-0-9, ]*)\\); *// (-?\\d+):");
    private static final Checks CHECKS = new Checks("ReadmeTest");

    private ReadmeTest() {
    }

    public static void main(String[] args) throws IOException {
        String readme = Files.readString(Path.of("README.md"));
        example(readme);
        table(readme);
        CHECKS.end();
    }

    private static void example(String readme) {
        Matcher told = TOLD.matcher(readme);
        boolean found = told.find();
        CHECKS.holds("the example tells a house", found);
        FoughtFromMemory x = new FoughtFromMemory();
        String letters = found ? told.group(1) : "";
        for (int i = 0; i < letters.length(); i++) {
            x.letter(letters.charAt(i));
        }
        int calls = 0;
        Matcher call = CALL.matcher(readme);
        while (call.find()) {
            int[] a = Arrays.stream(call.group(2).split("[, ]+")).filter(s -> !s.isEmpty()).mapToInt(Integer::parseInt).toArray();
            CHECKS.due(call.group(1) + Arrays.toString(a), Face.call(x, call.group(1), a), Long.parseLong(call.group(3)));
            calls++;
        }
        int lines = readme.split("(?m)^x\\.").length - 1;
        CHECKS.due("calls of the example whose answer is told", calls, lines);
    }

    private static void table(String readme) {
        int from = readme.indexOf("| for | calls |");
        CHECKS.holds("there is a table of calls", from >= 0);
        String calls = readme.substring(Math.max(0, from));
        for (String name : Face.NAMES) {
            CHECKS.holds("the table names " + name, calls.contains("`" + name + "`"));
        }
    }
}
