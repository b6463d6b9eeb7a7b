import java.io.File;
import java.io.IOException;
import java.nio.file.Files;
import java.nio.file.Path;
import java.util.regex.Matcher;
import java.util.regex.Pattern;

/** README.md: its examples answer what they say; it names each call, each test, and how the tests are run. */
public final class ReadmeTest {
    private static final Path README = Path.of("README.md"), DOCUMENT = Path.of("../shared/DOC.md");
    private static final Path TESTS = Path.of("src/test/java");
    private static final Pattern SAYS = Pattern.compile("for \\(char sign : \"(.*)\"\\.toCharArray\\(\\)\\) \\{");
    private static final Pattern CALL = Pattern.compile("council\\.(\\w+)\\((.*)\\); +// (-?\\w+).*");

    public static void main(String[] args) throws IOException {
        String text = Files.readString(README);
        examples(text);
        calls(text);
        tests(text);
        Due.end("ReadmeTest");
    }

    private static void examples(String text) {
        Due.part("README.md, an example");
        Matcher block = Pattern.compile("(?s)```java\n(.*?)```").matcher(text);
        int asked = 0;
        while (block.find()) {
            Council council = new Council();
            for (String line : block.group(1).split("\n")) {
                asked += row(council, line.trim());
            }
        }
        Due.holds("calls with an answer: " + asked, asked > 20);
    }

    private static int row(Council council, String line) {
        Matcher says = SAYS.matcher(line);
        Matcher call = CALL.matcher(line);
        if (says.matches()) {
            for (char sign : says.group(1).toCharArray()) {
                council.say(sign);
            }
            return 0;
        }
        if (call.matches()) {
            String asked = (call.group(1) + " " + call.group(2).replace(",", "")).trim();
            Due.is(line, Run.answer(council, asked), Run.number(call.group(3)));
            return 1;
        }
        Due.holds(line, line.equals("council.say(sign);") || line.equals("}")
            || line.equals("SilentCouncil council = new SilentCouncil();"));
        return 0;
    }

    /** Each method of the document's face, with its arguments. */
    private static void calls(String text) throws IOException {
        Due.part("README.md, the calls");
        Matcher face = Pattern.compile("    public int (\\w+)\\((.*)\\);").matcher(Files.readString(DOCUMENT));
        int calls = 0;
        while (face.find()) {
            calls++;
            String call = "`" + face.group(1) + "(" + face.group(2).replace("int ", "") + ")`";
            Due.holds(call, text.contains(call));
        }
        Due.is("calls", calls, 22);
    }

    private static void tests(String text) {
        Due.part("README.md, the tests");
        File[] files = TESTS.toFile().listFiles();
        Due.holds("tests are there", files != null && files.length > 10);
        for (File file : files == null ? new File[0] : files) {
            String name = file.getName().replace(".java", "");
            Due.holds(name, text.contains("`" + name + "`"));
        }
        Due.holds("how they are run", text.contains("\n.ci/run\n"));
    }
}
