import java.io.File;
import java.io.IOException;
import java.lang.reflect.Method;
import java.lang.reflect.Modifier;
import java.nio.file.Files;
import java.nio.file.Path;
import java.util.Set;
import java.util.TreeSet;
import java.util.regex.Matcher;
import java.util.regex.Pattern;

/** What README.md says of the class and of the tests is so; .ci/run starts it in the project's folder. */
public final class ReadmeTest {
    private static final Checks c = new Checks("ReadmeTest");

    public static void main(String[] args) throws IOException {
        String readme = Files.readString(Path.of("README.md"));
        example(readme);
        calls(readme);
        tests(readme);
        c.end();
    }

    /** Each line of the example that calls an object tells the answer behind "//". */
    private static void example(String readme) {
        DoorActs post = new DoorActs();
        int item = 0;
        int lines = 0;
        Matcher line = Pattern.compile("post\\.(\\w+)\\((.*?)\\); +// (\\S+):").matcher(readme);
        while (line.find()) {
            int got = Call.named(line.group(1), numbers(line.group(2), item)).on(post);
            c.due(line.group(), got, number(line.group(3), item));
            item = line.group(1).equals("item") ? got : item;
            lines++;
        }
        c.due("lines of the example that call", lines, readme.split("post\\.", -1).length - 1);
        c.due("the example has calls", lines > 0, true);
    }

    private static long[] numbers(String list, int item) {
        String[] texts = list.split(", ");
        long[] numbers = new long[texts.length];
        for (int i = 0; i < texts.length; i++) {
            numbers[i] = number(texts[i], item);
        }
        return numbers;
    }

    private static long number(String text, int item) {
        long product = 1;
        for (String factor : text.split(" \\* ")) {
            product *= switch (factor) {
                case "item" -> item;
                case "true" -> 1;
                case "false" -> 0;
                default -> Long.parseLong(factor);
            };
        }
        return product;
    }

    /** The table of calls has each method of the face once, with as many arguments as it has. */
    private static void calls(String readme) {
        Set<String> told = found("(?m)^\\| `(\\w+\\(.*?\\))` \\|", readme);
        int methods = 0;
        for (Method method : DoorActs.class.getDeclaredMethods()) {
            if (Modifier.isPublic(method.getModifiers())) {
                methods++;
                String form = method.getName() + "\\(\\w+(, \\w+){" + (method.getParameterCount() - 1) + "}\\)";
                c.due(method + " is in the table", told.stream().filter(call -> call.matches(form)).count(), 1);
            }
        }
        c.due("calls in the table", told.size(), methods);
    }

    private static void tests(String readme) {
        Set<String> told = found("`(\\w+Test)`", readme);
        Set<String> there = new TreeSet<>();
        for (String file : new File("src/test/java").list()) {
            if (file.endsWith("Test.java")) {
                there.add(file.substring(0, file.length() - ".java".length()));
            }
        }
        for (String test : there) {
            c.due(test + " is told of", told.contains(test), true);
        }
        for (String test : told) {
            c.due(test + " is there", there.contains(test), true);
        }
    }

    private static Set<String> found(String form, String text) {
        Set<String> found = new TreeSet<>();
        Matcher matcher = Pattern.compile(form).matcher(text);
        while (matcher.find()) {
            found.add(matcher.group(1));
        }
        return found;
    }
}
