import java.io.IOException;
import java.lang.reflect.Method;
import java.lang.reflect.Modifier;
import java.nio.file.Files;
import java.nio.file.Path;
import java.util.ArrayList;
import java.util.List;
import java.util.TreeSet;
import java.util.regex.Matcher;
import java.util.regex.Pattern;
import java.util.stream.Stream;

/** README.md is what a user reads first: what it says of the class must hold, and must be the document's words. */
public final class ReadmeTest {
    private static final Check check = new Check();
    private static final Pattern CALL_WITH_ANSWER = Pattern.compile("x\\.(\\w+)\\(([^)]*)\\);\\s*// (-?\\w+).*");

    public static void main(String[] args) throws IOException, ReflectiveOperationException {
        String readme = Files.readString(Path.of("README.md"));
        faceIsTheDocuments(readme, Files.readString(Path.of("../shared/DOC.md")));
        faceIsTheClasses(readme);
        exampleAnswersAsItSays(readme);
        eachTestIsNamed(readme);
        saysHowTestsAreRun(readme);
        check.end();
    }

    private static void faceIsTheDocuments(String readme, String document) {
        String face = firstMatch("```java\n(public final class FencedModules \\{.*?\n\\})\n```", document);
        check.yes("the face stands there as in the document", !face.isEmpty() && readme.contains(face));
        Matcher promise = Pattern.compile("## Promise (\\d+): [^\n]*\n\n(`[^\n]*)").matcher(document);
        int promises = 0;
        while (promise.find()) {
            promises++;
            check.yes("promise " + promise.group(1) + " stands there as in the document", readme.contains("- " + promise.group(2) + "\n"));
        }
        check.same("promises", promises, 19);
    }

    private static void faceIsTheClasses(String readme) {
        String face = firstMatch("```java\n(public final class FencedModules \\{.*?\n\\})\n```", readme);
        TreeSet<String> told = new TreeSet<>();
        Matcher line = Pattern.compile("public (\\w+ \\w+\\([^)]*\\));").matcher(face);
        while (line.find()) {
            told.add(line.group(1).replaceAll("int \\w+(?=[,)])", "int"));
        }
        TreeSet<String> there = new TreeSet<>();
        for (Method method : FencedModules.class.getDeclaredMethods()) {
            if (Modifier.isPublic(method.getModifiers())) {
                there.add(method.getReturnType() + " " + method.getName() + types(method));
            }
        }
        check.sameText("the methods of the face", told.toString(), there.toString());
    }

    private static String types(Method method) {
        List<String> names = new ArrayList<>();
        for (Class<?> type : method.getParameterTypes()) {
            names.add(type.getName());
        }
        return "(" + String.join(", ", names) + ")";
    }

    /** Each line of the example has its answer behind it, as the first word of its comment. */
    private static void exampleAnswersAsItSays(String readme) throws ReflectiveOperationException {
        FencedModules x = new FencedModules();
        String example = firstMatch("```java\n(FencedModules x = new FencedModules\\(\\);\n.*?)\n```", readme);
        int calls = 0;
        for (String line : example.split("\n")) {
            if (line.startsWith("x.")) {
                calls++;
                Matcher call = CALL_WITH_ANSWER.matcher(line);
                check.yes("a call with its answer: " + line, call.matches());
                check.sameText(line, call.matches() ? answer(x, call.group(1), call.group(2)) : "", call.matches() ? call.group(3) : "none");
            }
        }
        check.yes("the example has calls", calls > 0);
    }

    private static String answer(FencedModules x, String name, String arguments) throws ReflectiveOperationException {
        String[] texts = arguments.isEmpty() ? new String[0] : arguments.split(", ");
        Class<?>[] types = new Class<?>[texts.length];
        Object[] values = new Object[texts.length];
        for (int n = 0; n < texts.length; n++) {
            types[n] = int.class;
            values[n] = Integer.valueOf(texts[n]);
        }
        return String.valueOf(FencedModules.class.getMethod(name, types).invoke(x, values));
    }

    private static void eachTestIsNamed(String readme) throws IOException {
        TreeSet<String> there = new TreeSet<>();
        try (Stream<Path> files = Files.list(Path.of("src/test/java"))) {
            files.map(file -> file.getFileName().toString()).filter(name -> name.endsWith("Test.java")).forEach(name -> there.add(name.replace(".java", "")));
        }
        TreeSet<String> told = new TreeSet<>();
        Matcher row = Pattern.compile("\n\\| `(\\w+)` \\|").matcher(readme);
        while (row.find()) {
            told.add(row.group(1));
        }
        check.sameText("the tests in the table", told.toString(), there.toString());
    }

    private static void saysHowTestsAreRun(String readme) {
        check.yes("a section of its own", readme.contains("\n## Tests\n"));
        check.yes("the script is named", readme.contains("`.ci/run`") && Files.exists(Path.of(".ci/run")));
    }

    private static String firstMatch(String pattern, String text) {
        Matcher found = Pattern.compile(pattern, Pattern.DOTALL).matcher(text);
        return found.find() ? found.group(1) : "";
    }
}
