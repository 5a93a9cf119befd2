import java.io.IOException;
import java.lang.reflect.Method;
import java.nio.file.Files;
import java.nio.file.Path;
import java.util.Arrays;

/** Holds the tests against the document: what they quote stands there, and each of its words is quoted by one of them. */
public final class DocumentTest {
    private static final Path DOCUMENT = Path.of("../shared/DOC.md");
    private static final Class<?>[] TESTS = {TermsTest.class, MineTest.class, RunsTest.class, WouldTest.class, TextTest.class,
        StatesTest.class};
    private static final int PROMISES = 27;

    private final Due due = new Due();
    private final String[] words = new String[PROMISES + 1];
    private final boolean[][] quoted = new boolean[PROMISES + 1][];

    private static String section(String document, String heading) {
        int start = document.indexOf("\n## " + heading);
        if (start < 0) return "";
        int from = document.indexOf('\n', start + 1), to = document.indexOf("\n## ", from);
        return document.substring(from, to < 0 ? document.length() : to);
    }

    private static String oneLine(String text) {
        return text.replaceAll("```(text)?", " ").replaceAll("\\s+", " ").trim();
    }

    private void readDocument() throws IOException {
        String document = "\n" + Files.readString(DOCUMENT);
        words[0] = oneLine(section(document, "What it is") + section(document, "Terms"));
        for (int promise = 1; promise <= PROMISES; promise++) {
            String section = oneLine(section(document, "Promise " + promise + ":"));
            words[promise] = section.substring(section.indexOf("`:") + 2);
        }
        for (int promise = 0; promise <= PROMISES; promise++) quoted[promise] = new boolean[words[promise].length()];
        // the title, the numbers of the sections and the names of the groups of calls tell nothing to be tested
        passOver(words[0].indexOf("A mine held up"), words[0].indexOf("THE ROOF has"));
        passOver(words[0].indexOf("======== 2 "), words[0].indexOf("SPARE of a standing"));
        passOver(words[0].indexOf("Ahead of the calls"), words[0].length());
    }

    private void passOver(int from, int to) {
        due.is("the document is as it was where its words are passed over", from >= 0 && from <= to ? 1 : 0, 1);
        if (from >= 0 && from <= to) Arrays.fill(quoted[0], from, to, true);
    }

    private static boolean isWordSign(String text, int at) {
        return at >= 0 && at < text.length() && Character.isLetterOrDigit(text.charAt(at));
    }

    /** A quote stands where it neither starts nor ends inside a word. */
    private static boolean standsAt(String text, String quote, int at) {
        boolean cutBefore = isWordSign(text, at - 1) && isWordSign(quote, 0);
        boolean cutBehind = isWordSign(quote, quote.length() - 1) && isWordSign(text, at + quote.length());
        return !cutBefore && !cutBehind;
    }

    private void quote(Method test, int promise, String quote) {
        String text = words[promise];
        int found = 0;
        for (int at = text.indexOf(quote); at >= 0; at = text.indexOf(quote, at + 1)) {
            if (standsAt(text, quote, at)) {
                Arrays.fill(quoted[promise], at, at + quote.length(), true);
                found++;
            }
        }
        due.is(SentenceTests.nameOf(test) + " stands in the document", found > 0 ? 1 : 0, 1);
    }

    private void readTests() {
        for (Class<?> type : TESTS) {
            for (Method test : SentenceTests.testsOf(type)) {
                Sentence sentence = test.getAnnotation(Sentence.class);
                for (String quote : sentence.says()) quote(test, sentence.promise(), quote);
            }
        }
    }

    private void everyWordHasATest() {
        for (int promise = 0; promise <= PROMISES; promise++) {
            due.is("promise " + promise + " is in the document", words[promise].isEmpty() ? 0 : 1, 1);
            StringBuilder left = new StringBuilder();
            for (int at = 0; at < words[promise].length(); at++) {
                if (!quoted[promise][at]) left.append(words[promise].charAt(at));
            }
            boolean none = left.chars().noneMatch(Character::isLetterOrDigit);
            due.is("promise " + promise + ", words without a test: " + oneLine(left.toString()), none ? 0 : 1, 0);
        }
    }

    public static void main(String[] args) throws IOException {
        DocumentTest test = new DocumentTest();
        test.readDocument();
        test.readTests();
        test.everyWordHasATest();
        test.due.end();
    }
}
