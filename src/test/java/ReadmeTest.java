import java.io.IOException;
import java.lang.reflect.Method;
import java.lang.reflect.Modifier;
import java.nio.file.Files;
import java.nio.file.Path;
import java.util.Set;
import java.util.TreeSet;
import java.util.regex.Matcher;
import java.util.regex.Pattern;
import java.util.stream.Stream;

/** What README.md says of the calls, their answers and the tests is so. */
public final class ReadmeTest {
    private static final Path README = Path.of("README.md");
    private static final Path TESTS = Path.of("src/test/java");
    private static final Pattern EXAMPLE = Pattern.compile("```java\n(.*?)```", Pattern.DOTALL);
    private static final Pattern MADE = Pattern.compile("KinNumbers x = new KinNumbers\\((\\d+)\\); +//.*");
    private static final Pattern ASKED = Pattern.compile("x\\.(\\w+)\\((.*)\\); +// (-?\\d+|true|false)(:.*)?");
    private static final Pattern ROW_OF_CALL = Pattern.compile("^\\| `\\w+\\(.*?\\|", Pattern.MULTILINE);
    private static final Pattern ROW_OF_TEST = Pattern.compile("^\\| `\\w+Test`.*?\\|", Pattern.MULTILINE);
    private static final Pattern CALL = Pattern.compile("`(\\w+)\\((.*?)\\)`");
    private static final Pattern TEST = Pattern.compile("`(\\w+)`");
    private static final Check CHECK = new Check();

    public static void main(String[] args) throws Exception {
        String text = Files.readString(README);
        Matcher example = EXAMPLE.matcher(text);
        CHECK.due("there is an example", example.find(), true);
        askExample(example.group(1).split("\n"));
        sameNames("call", namesIn(text, ROW_OF_CALL, CALL), faceCalls());
        sameNames("test", namesIn(text, ROW_OF_TEST, TEST), ownTests());
        CHECK.end();
    }

    /** Its first line makes the object; each one after it is a call with its answer. */
    private static void askExample(String[] lines) throws Exception {
        Matcher made = MADE.matcher(lines[0]);
        CHECK.due(lines[0], made.matches(), true);
        KinNumbers x = new KinNumbers(Integer.parseInt(made.group(1)));
        for (int k = 1; k < lines.length; k++) {
            Matcher asked = ASKED.matcher(lines[k]);
            CHECK.due("a call and its answer: " + lines[k], asked.matches(), true);
            Object got = answer(x, asked.group(1), asked.group(2).split(", "));
            CHECK.due(lines[k] + " answered " + got, got.toString().equals(asked.group(3)), true);
        }
    }

    private static Object answer(KinNumbers x, String name, String[] words) throws Exception {
        Method method = call(name);
        Object[] values = new Object[words.length];
        for (int k = 0; k < words.length; k++) {
            values[k] = value(words[k], method.getParameterTypes()[k]);
        }
        return method.invoke(x, values);
    }

    private static Object value(String word, Class<?> type) {
        if (type == boolean.class) {
            return Boolean.valueOf(word);
        }
        return word.equals("KinNumbers.NONE") ? KinNumbers.NONE : Integer.parseInt(word);
    }

    private static Method call(String name) {
        for (Method method : KinNumbers.class.getDeclaredMethods()) {
            if (Modifier.isPublic(method.getModifiers()) && method.getName().equals(name)) {
                return method;
            }
        }
        throw new IllegalArgumentException(name);
    }

    /** A call's name with the number of its parameters, as its row in the README has them. */
    private static Set<String> faceCalls() {
        Set<String> names = new TreeSet<>();
        for (Method method : KinNumbers.class.getDeclaredMethods()) {
            if (Modifier.isPublic(method.getModifiers())) {
                names.add(method.getName() + " " + method.getParameterCount());
            }
        }
        return names;
    }

    private static Set<String> ownTests() throws IOException {
        Set<String> names = new TreeSet<>();
        try (Stream<Path> files = Files.list(TESTS)) {
            files.map(file -> file.getFileName().toString())
                .filter(name -> name.endsWith("Test.java"))
                .forEach(name -> names.add(name.substring(0, name.length() - ".java".length())));
        }
        return names;
    }

    private static Set<String> namesIn(String text, Pattern rowForm, Pattern nameForm) {
        Set<String> names = new TreeSet<>();
        Matcher row = rowForm.matcher(text);
        while (row.find()) {
            Matcher name = nameForm.matcher(row.group());
            while (name.find()) {
                names.add(name.groupCount() == 1 ? name.group(1) : name.group(1) + " " + name.group(2).split(", ").length);
            }
        }
        return names;
    }

    private static void sameNames(String kind, Set<String> told, Set<String> there) {
        for (String name : there) {
            CHECK.due("the README tells the " + kind + " " + name, told.contains(name), true);
        }
        for (String name : told) {
            CHECK.due("there is the " + kind + " " + name, there.contains(name), true);
        }
    }
}
