import java.lang.reflect.Field;
import java.lang.reflect.Method;
import java.lang.reflect.Modifier;
import java.nio.file.DirectoryStream;
import java.nio.file.Files;
import java.nio.file.Path;
import java.util.HashMap;
import java.util.Map;
import java.util.regex.Matcher;
import java.util.regex.Pattern;

/** What README.md says: its example answers so, its calls are in the document's words, all constants and tests are there. */
public final class ReadmeHolds {
    private static final Path DOCUMENT = Path.of("../shared/DOC.md");
    private static final Pattern CALL = Pattern.compile("(?:int (\\w+) = )?atlas\\.(\\w+)\\((.*?)\\); *// (-?\\d+).*");
    private static final int PROMISES = 34;
    private static int wrong = 0;

    public static void main(String[] args) throws Exception {
        String readme = Files.readString(Path.of("README.md"));
        lookAtCalls(readme);
        lookAtConstants(readme);
        lookAtTests(readme);
        lookAtExample(readme);
        // A checkout may stand without the document; then there is nothing to compare with.
        if (Files.exists(DOCUMENT)) {
            lookAtWords(onOneLine(readme), Files.readString(DOCUMENT));
        } else {
            System.out.println("no " + DOCUMENT + " here: the words of the calls are not compared");
        }
        System.out.println(wrong == 0 ? "the README holds" : wrong + " things of the README do not hold");
        if (wrong != 0) {
            System.exit(1);
        }
    }

    private static void fault(String text) {
        wrong++;
        System.out.println(text);
    }

    private static String onOneLine(String text) {
        return text.replaceAll("\\s+", " ");
    }

    private static boolean isOfTheFace(Method method) {
        return method.getDeclaringClass() == CutAtlas.class && !Modifier.isStatic(method.getModifiers());
    }

    private static void lookAtCalls(String readme) {
        for (Method method : CutAtlas.class.getMethods()) {
            String begin = "- `" + method.getReturnType().getSimpleName() + " " + method.getName() + "(";
            if (isOfTheFace(method) && !readme.contains(begin)) {
                fault("the README does not tell of " + method.getName() + "()");
            }
        }
    }

    private static void lookAtConstants(String readme) throws Exception {
        for (Field field : CutAtlas.class.getFields()) {
            String name = "`" + field.getName() + "`";
            int value = field.getInt(null);
            if (!readme.contains("| " + name + " | " + value + " |") && !readme.contains(name + " (" + value + ")")) {
                fault("the README does not tell that " + field.getName() + " is " + value);
            }
        }
    }

    private static void lookAtTests(String readme) throws Exception {
        try (DirectoryStream<Path> tests = Files.newDirectoryStream(Path.of("src/test/java"), "*.java")) {
            for (Path test : tests) {
                String name = test.getFileName().toString().replace(".java", "");
                if (!readme.contains("`" + name + "`")) {
                    fault("the README does not tell of the test " + name);
                }
            }
        }
    }

    /** Each line of the example but the first calls, and tells the answer at the beginning of its comment. */
    private static void lookAtExample(String readme) throws Exception {
        Matcher block = Pattern.compile("(?s)```java\n(.*?)\n```").matcher(readme);
        if (!block.find()) {
            fault("the README has no example");
            return;
        }
        CutAtlas atlas = new CutAtlas();
        Map<String, Long> named = new HashMap<>();
        String[] lines = block.group(1).split("\n");
        if (!lines[0].equals("CutAtlas atlas = new CutAtlas();")) {
            fault("the example begins with: " + lines[0]);
        }
        for (int i = 1; i < lines.length; i++) {
            Matcher call = CALL.matcher(lines[i]);
            if (!call.matches()) {
                fault("a line of the example tells no answer: " + lines[i]);
            } else {
                tryCall(atlas, named, call);
            }
        }
    }

    private static void tryCall(CutAtlas atlas, Map<String, Long> named, Matcher call) throws Exception {
        String[] given = call.group(3).isEmpty() ? new String[0] : call.group(3).split(", ");
        for (Method method : CutAtlas.class.getMethods()) {
            if (isOfTheFace(method) && method.getName().equals(call.group(2)) && method.getParameterCount() == given.length) {
                long answer = ((Number) method.invoke(atlas, numbers(method, given, named))).longValue();
                if (answer != Long.parseLong(call.group(4))) {
                    fault("the example's " + call.group() + " answered " + answer);
                }
                if (call.group(1) != null) {
                    named.put(call.group(1), answer);
                }
                return;
            }
        }
        fault("there is no such call: " + call.group());
    }

    private static Object[] numbers(Method method, String[] given, Map<String, Long> named) {
        Object[] numbers = new Object[given.length];
        for (int i = 0; i < given.length; i++) {
            long number = named.containsKey(given[i]) ? named.get(given[i]) : Long.parseLong(given[i]);
            numbers[i] = method.getParameterTypes()[i] == long.class ? (Object) number : (Object) (int) number;
        }
        return numbers;
    }

    private static void lookAtWords(String readme, String document) {
        Matcher promise = Pattern.compile("(?m)^## Promise \\d+: .*\n\n(`.*)$").matcher(document);
        int promises = 0;
        while (promise.find()) {
            promises++;
            if (!readme.contains("- " + onOneLine(promise.group(1)).trim())) {
                fault("not in the document's words: " + promise.group(1));
            }
        }
        if (promises != PROMISES) {
            fault("the document has " + promises + " promises, not " + PROMISES);
        }
    }
}
