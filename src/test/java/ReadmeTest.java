import java.io.IOException;
import java.lang.reflect.Method;
import java.lang.reflect.Modifier;
import java.nio.file.DirectoryStream;
import java.nio.file.Files;
import java.nio.file.Path;
import java.util.regex.Matcher;
import java.util.regex.Pattern;

/** Holds README.md against the class: what its examples answer is true, and it names every call and every test. */
public final class ReadmeTest {
    private static final Pattern CALL = Pattern.compile("mine\\.(\\w+)\\(([-0-9, ]*)\\);\\s*// (-?\\d+)");

    private final Due due = new Due();
    private final String readme;

    private ReadmeTest() throws IOException {
        readme = Files.readString(Path.of("README.md"));
    }

    /** What stands in the first block of a kind. */
    private String block(String kind) {
        Matcher found = Pattern.compile("```" + kind + "\n(.*?)```", Pattern.DOTALL).matcher(readme);
        return found.find() ? found.group(1) : "";
    }

    private static Method call(String name) {
        for (Method method : PillarRuns.class.getDeclaredMethods()) {
            if (Modifier.isPublic(method.getModifiers()) && method.getName().equals(name)) return method;
        }
        throw new IllegalArgumentException("README.md uses a call that is not there: " + name);
    }

    private static Object[] numbers(String list) {
        if (list.isBlank()) return new Object[0];
        String[] parts = list.split(",");
        Object[] numbers = new Object[parts.length];
        for (int i = 0; i < parts.length; i++) numbers[i] = Integer.valueOf(parts[i].trim());
        return numbers;
    }

    private void callsAnswerAsTold() throws ReflectiveOperationException {
        PillarRuns mine = new PillarRuns();
        String[] lines = block("java").strip().split("\n");
        due.is("the first line makes an object", lines[0].equals("PillarRuns mine = new PillarRuns();") ? 1 : 0, 1);
        for (int i = 1; i < lines.length; i++) {
            Matcher told = CALL.matcher(lines[i]);
            boolean isCall = told.lookingAt();
            due.is("a call with its answer: " + lines[i], isCall ? 1 : 0, 1);
            if (isCall) {
                Object got = call(told.group(1)).invoke(mine, numbers(told.group(2)));
                due.is("README.md: " + told.group(), ((Number) got).longValue(), Long.parseLong(told.group(3)));
            }
        }
    }

    private void textAnswersAsTold() {
        Matcher told = Pattern.compile("On a new object this\\s+one answers (\\d+):").matcher(readme);
        due.is("README.md tells what its text answers", told.find() ? 1 : 0, 1);
        PillarRuns mine = new PillarRuns();
        String text = block("text").strip();
        for (int i = 0; i < text.length(); i++) due.is("byte " + i, mine.type(text.charAt(i)), i + 1);
        due.is("README.md: its text", mine.does(), Long.parseLong(told.group(1)));
    }

    private void callsAreNamed() {
        for (Method method : PillarRuns.class.getDeclaredMethods()) {
            if (Modifier.isPublic(method.getModifiers())) {
                due.is("README.md names " + method.getName(), readme.contains("`" + method.getName() + "(") ? 1 : 0, 1);
            }
        }
    }

    private void testsAreNamed() throws IOException {
        try (DirectoryStream<Path> tests = Files.newDirectoryStream(Path.of("src/test/java"), "*Test.java")) {
            for (Path test : tests) {
                String name = test.getFileName().toString().replace(".java", "");
                due.is("README.md names " + name, readme.contains("`" + name + "`") ? 1 : 0, 1);
            }
        }
        Matcher named = Pattern.compile("`(\\w+Test)`").matcher(readme);
        while (named.find()) {
            due.is(named.group(1) + " is there", Files.exists(Path.of("src/test/java", named.group(1) + ".java")) ? 1 : 0, 1);
        }
    }

    public static void main(String[] args) throws Exception {
        ReadmeTest test = new ReadmeTest();
        test.callsAnswerAsTold();
        test.textAnswersAsTold();
        test.callsAreNamed();
        test.testsAreNamed();
        test.due.end();
    }
}
