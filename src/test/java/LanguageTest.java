import java.lang.reflect.Field;
import java.lang.reflect.Method;
import java.lang.reflect.Modifier;
import java.nio.file.Files;
import java.nio.file.Path;
import java.util.List;
import java.util.regex.Matcher;
import java.util.regex.Pattern;

/** The rules of LANGUAGE.md, as far as the text and the classes show them. */
public final class LanguageTest {
    private static final String[] NEVER = {"throw", "throws", "try", "catch", "finally", "synchronized", "assert",
        "import", "package", "volatile", "transient", "native", "protected", "record", "var", "yield", "Exception",
        "Error", "Thread", "Random", "Class", "Object", "hashCode", "toString", "MAX_VALUE", "MIN_VALUE", "String",
        "goto", "strictfp", "NaN"};
    private static final Pattern METHOD = Pattern.compile("^ {4,8}[A-Za-z].*\\) \\{$");

    public static void main(String[] args) throws Exception {
        Due due = new Due("LanguageTest");
        Path root = Path.of(args.length > 0 ? args[0] : ".");
        List<String> lines = Files.readAllLines(root.resolve("src/main/java/BirdThatDrinks.java"));
        String code = String.join("\n", lines).replaceAll("(?s)/\\*.*?\\*/", "").replaceAll("//.*", "");
        for (String word : NEVER) {
            due.isTrue("no " + word, !Pattern.compile("\\b" + word + "\\b").matcher(code).find());
        }
        due.isTrue("no lambda", !code.contains("->"));
        due.isTrue("no method reference", !code.contains("::"));
        due.isTrue("no text", !code.contains("\""));
        due.isTrue("plain signs alone", code.chars().allMatch(c -> c < 128));
        for (String line : lines) {
            due.isTrue("a line is at most 120 signs: " + line, line.length() <= 120);
        }
        libraryCalls(due, code);
        methodLengths(due, lines);
        classes(due);
        due.end();
    }

    /** Of the library the program uses these alone. */
    private static void libraryCalls(Due due, String code) {
        Matcher used = Pattern.compile("\\b(Math|Integer|Long|System|Arrays|List)\\.(\\w+)").matcher(code);
        while (used.find()) {
            due.isTrue(used.group(), List.of("Math.min", "Math.max", "Math.abs", "Integer.bitCount",
                "System.arraycopy").contains(used.group()));
        }
    }

    private static void methodLengths(Due due, List<String> lines) {
        int start = -1;
        String end = "";
        for (int i = 0; i < lines.size(); i++) {
            String line = lines.get(i);
            if (start < 0 && METHOD.matcher(line).matches() && !line.contains("class ")) {
                start = i;
                end = line.substring(0, line.length() - line.stripLeading().length()) + "}";
            } else if (start >= 0 && line.equals(end)) {
                due.isTrue("at most 60 lines: " + lines.get(start), i - start < 60);
                start = -1;
            }
        }
    }

    private static void classes(Due due) {
        Class<?>[] inside = BirdThatDrinks.class.getDeclaredClasses();
        due.isTrue("at most 12 classes", inside.length <= 11);
        checkClass(due, BirdThatDrinks.class);
        for (Class<?> c : inside) {
            checkClass(due, c);
        }
    }

    private static void checkClass(Due due, Class<?> c) {
        int fields = 0;
        for (Field f : c.getDeclaredFields()) {
            boolean isConstant = Modifier.isStatic(f.getModifiers());
            fields += isConstant ? 0 : 1;
            due.isTrue(f + " is final, if static", !isConstant || Modifier.isFinal(f.getModifiers()));
        }
        due.isTrue("at most 20 fields in " + c, fields <= 20);
        for (Method m : c.getDeclaredMethods()) {
            due.isTrue("at most seven parameters: " + m, m.getParameterCount() <= 7);
        }
    }
}
