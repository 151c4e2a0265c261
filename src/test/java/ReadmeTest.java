import java.lang.reflect.Method;
import java.lang.reflect.Modifier;
import java.nio.file.DirectoryStream;
import java.nio.file.Files;
import java.nio.file.Path;
import java.util.regex.Matcher;
import java.util.regex.Pattern;

/** What README.md shows must be so: its example has each call and answers as it says, its table has each test. */
public final class ReadmeTest {
    private static final Pattern EXAMPLE = Pattern.compile("(?s)```java\n(.*?)```");
    private static final Pattern CALL =
        Pattern.compile("desk\\.(\\w+\\([^)]*\\)); +// (-?\\d+|true|false|\\w+Exception)(:.*)?");

    public static void main(String[] args) throws Exception {
        String readme = Files.readString(Path.of("README.md"));
        example(readme);
        table(readme);
        Check.end("ReadmeTest");
    }

    private static void example(String readme) {
        Matcher block = EXAMPLE.matcher(readme);
        boolean found = block.find();
        Check.due("README.md has an example", true, found);
        if (!found) {
            return;
        }
        StringBuilder script = new StringBuilder("\n");
        for (String line : block.group(1).split("\n")) {
            if (line.startsWith("desk.")) {
                script.append(asScript(line)).append('\n');
            }
        }
        Script.due("README.md", script.toString());
        for (Method method : ExpenseDesk.class.getDeclaredMethods()) {
            boolean isShown = script.indexOf("\n" + method.getName() + "(") >= 0;
            Check.due("the example shows " + method, true, isShown || !Modifier.isPublic(method.getModifiers()));
        }
    }

    private static String asScript(String line) {
        Matcher call = CALL.matcher(line.replace("ExpenseDesk.ANY", Integer.toString(ExpenseDesk.ANY)));
        boolean isCall = call.matches();
        Check.due("README.md: a call with its answer: " + line, true, isCall);
        if (!isCall) {
            return "";
        }
        String due = call.group(2);
        return call.group(1) + (due.endsWith("Exception") ? " throws " : " = ") + due;
    }

    private static void table(String readme) throws Exception {
        try (DirectoryStream<Path> tests = Files.newDirectoryStream(Path.of("src/test/java"), "*Test.java")) {
            for (Path test : tests) {
                String name = test.getFileName().toString().replace(".java", "");
                Check.due("README.md names " + name, true, readme.contains("| " + name + " |"));
            }
        }
    }
}
