import java.io.File;
import java.io.IOException;
import java.lang.reflect.Method;
import java.lang.reflect.Modifier;
import java.nio.file.Files;
import java.nio.file.Path;
import java.util.regex.Matcher;
import java.util.regex.Pattern;

/** What README.md says of the class is so: each call of its example answers the number that is told behind it. */
public final class ReadmeTest {
    private static final Pattern CALL = Pattern.compile("^x\\.(\\w+)\\((.*)\\);\\s+// (-?\\d+|nothing): ", Pattern.MULTILINE);

    public static void main(String[] args) throws IOException {
        String readme = Files.readString(Path.of("README.md"));
        example(readme);
        everyCall(readme);
        everyTest(readme);
        Check.end();
    }

    private static void example(String readme) {
        ReceiveSteps x = new ReceiveSteps();
        Matcher each = CALL.matcher(readme);
        int calls = 0;
        while (each.find()) {
            Call call = written(each.group(1), each.group(2).split(", "));
            String due = each.group(3).equals("nothing") ? "0" : each.group(3);
            String got = call.answer(x);
            if (!got.equals(due)) {
                Check.tell(call + " answered " + got + ", README.md says " + due);
            }
            calls++;
        }
        Check.due("calls of the example", calls, readme.split("(?m)^x\\.", -1).length - 1);
        Check.due("the example has calls", calls > 0 ? 1 : 0, 1);
    }

    private static Call written(String name, String[] texts) {
        int[] with = new int[texts.length];
        for (int k = 0; k < texts.length; k++) {
            boolean truth = texts[k].equals("true") || texts[k].equals("false");
            with[k] = truth ? (texts[k].equals("true") ? 1 : 0) : Integer.parseInt(texts[k]);
        }
        return new Call(name.equals("count") && with.length > 1 ? Call.PIECES : name, with);
    }

    private static void everyCall(String readme) {
        for (Method method : ReceiveSteps.class.getDeclaredMethods()) {
            String name = method.getName() + "(";
            if (Modifier.isPublic(method.getModifiers()) && !readme.contains(name)) {
                Check.tell("README.md does not show " + method.getName());
            }
        }
    }

    private static void everyTest(String readme) {
        String[] files = new File("src/test/java").list();
        for (String file : files) {
            String name = file.replace(".java", "");
            if (name.endsWith("Test") && !readme.contains("| " + name + " |")) {
                Check.tell("README.md does not name the test " + name);
            }
        }
    }
}
