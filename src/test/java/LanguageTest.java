import java.io.IOException;
import java.nio.file.Files;
import java.nio.file.Path;
import java.util.List;
import java.util.regex.Matcher;
import java.util.regex.Pattern;

/** The rules of LANGUAGE.md that can be seen from the text of the class; .ci/run starts it in the project's folder. */
public final class LanguageTest {
    private static final Checks c = new Checks("LanguageTest");

    public static void main(String[] args) throws IOException {
        String text = withoutComments(Files.readString(Path.of("src/main/java/DoorActs.java")));
        imports(text);
        words(text);
        methods(text);
        c.due("rule 11: some twelve classes", count("\\b(class|record|enum|interface) \\w+", text) <= 12, true);
        c.end();
    }

    private static String withoutComments(String text) {
        return text.replaceAll("(?s)/\\*.*?\\*/", "").replaceAll("//[^\n]*", "");
    }

    private static int count(String form, String text) {
        int count = 0;
        Matcher matcher = Pattern.compile(form).matcher(text);
        while (matcher.find()) {
            count++;
        }
        return count;
    }

    private static void imports(String text) {
        List<String> allowed = List.of("ArrayList", "List", "Arrays", "Iterator", "NoSuchElementException");
        Matcher matcher = Pattern.compile("(?m)^import (.*);").matcher(text);
        while (matcher.find()) {
            String name = matcher.group(1);
            boolean listed = name.startsWith("java.util.") && allowed.contains(name.substring("java.util.".length()));
            c.due("rule 4: import " + name, listed, true);
        }
        c.due("no package", count("(?m)^package ", text), 0);
        c.due("no library by its whole name", count("\\bjavax?\\.", text) - count("(?m)^import java\\.", text), 0);
    }

    private static void words(String text) {
        none(text, 2, "->", "::");
        none(text, 4, "Exact\\(", "System\\.(?!arraycopy)", "\\.stream\\(", "Math\\.random");
        none(text, 5, "static \\{");
        none(text, 6, "\\btry\\b", "\\bcatch\\b", "\\bfinally\\b", "\\bsynchronized\\b", "\\bassert\\b");
        none(text, 6, "hashCode", "toString", "\\.equals\\(", "extends \\w*Exception", "\\bthrows?\\b");
        none(text, 13, "\\bThread\\b", "\\bRandom\\b", "\\bnative\\b", "\\bvolatile\\b");
    }

    /** A form that a rule forbids, or one of its kind that this class has no need of: the document wants no exception. */
    private static void none(String text, int rule, String... forms) {
        for (String form : forms) {
            c.due("rule " + rule + ": " + form, count(form, text), 0);
        }
    }

    private static void methods(String text) {
        String[] lines = text.split("\n");
        int methods = 0;
        for (int i = 0; i < lines.length; i++) {
            Matcher head = Pattern.compile("^( +)[\\w<>\\[\\] ]+\\((.*)\\) \\{$").matcher(lines[i]);
            if (!head.matches() || lines[i].trim().matches("(if|for|while|switch|\\} else if) .*")) {
                continue;
            }
            methods++;
            int end = i;
            while (!lines[end].equals(head.group(1) + "}")) {
                end++;
            }
            c.due("rule 11: lines of " + lines[i].trim(), end - i + 1 <= 60, true);
            c.due("rule 11: parameters of " + lines[i].trim(), head.group(2).split(",").length <= 7, true);
        }
        c.due("methods were found", methods > 20, true);
    }
}
