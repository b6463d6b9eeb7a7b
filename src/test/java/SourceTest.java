import java.io.IOException;
import java.nio.file.Files;
import java.nio.file.Path;
import java.util.List;
import java.util.TreeSet;
import java.util.regex.Matcher;
import java.util.regex.Pattern;

/** The text of the class: the face as DOC.md writes it, and the rules of LANGUAGE.md that a text can tell. */
public final class SourceTest {
    private static final Path SOURCE = Path.of("src/main/java/SilentCouncil.java");
    private static final Path DOCUMENT = Path.of("../shared/DOC.md");
    private static final int MOST_LINES = 60, MOST_PARAMETERS = 7, MOST_CLASSES = 12;

    public static void main(String[] args) throws IOException {
        List<String> lines = Files.readAllLines(SOURCE);
        String text = withoutComments(String.join("\n", lines));
        face(lines);
        words(text);
        library(text);
        made(text);
        classes(text);
        methods(text);
        Due.end("SourceTest");
    }

    private static String withoutComments(String text) {
        return text.replaceAll("(?s)/\\*.*?\\*/", "").replaceAll("//[^\n]*", "");
    }

    /** Each line of the block of code in 'The public face' stands in the source, to the letter. */
    private static void face(List<String> lines) throws IOException {
        Due.part("the face, to the letter");
        String document = Files.readString(DOCUMENT);
        int from = document.indexOf("```java\n") + "```java\n".length();
        String[] face = document.substring(from, document.indexOf("```", from)).split("\n");
        Due.is("lines of the face", face.length, 26);
        for (String line : face) {
            String body = line.startsWith("    ") && line.endsWith(");") ? line.replace(";", " {") : line;
            Due.holds(line, lines.contains(body));
        }
    }

    private static void none(String rule, String text, String pattern) {
        Matcher matcher = Pattern.compile(pattern).matcher(text);
        Due.holds(rule + (matcher.find() ? ": " + matcher.group() : ""), !matcher.reset().find());
    }

    private static void words(String text) {
        Due.part("LANGUAGE.md, words");
        none("no package, no import", text, "\\b(package|import)\\b");
        none("no exceptions", text, "\\b(throws?|try|catch|finally|assert)\\b");
        none("no lambda, no method reference", text, "->|::");
        none("no thread, no clock, no randomness", text,
            "\\b(synchronized|volatile|Thread|Runtime|Random|currentTimeMillis|nanoTime)\\b");
        none("no equals, hashCode, toString", text, "\\b(equals|hashCode|toString|finalize)\\b");
        none("no texts", text, "\"|\\bString\\b");
        none("signs 1 to 127", text, "[^\\n\\x20-\\x7e]");
        none("no static state", text, "\\bstatic (?!final|int|boolean|void|long)");
        none("no static initialiser", text, "\\bstatic \\{");
    }

    private static void library(String text) {
        Due.part("LANGUAGE.md, the library");
        TreeSet<String> known = new TreeSet<>(List.of("Math.max", "Math.min", "Integer.bitCount", "System.arraycopy"));
        Matcher calls = Pattern.compile("\\b(?:Math|Integer|Long|System|Arrays|String|Character|Object)\\.\\w+")
            .matcher(text);
        while (calls.find()) {
            Due.holds("library: " + calls.group(), known.contains(calls.group()));
        }
    }

    /** Rows are made where fields are made, and in constructors: no call makes anything. */
    private static void made(String text) {
        Due.part("LANGUAGE.md, what is made");
        for (String line : text.split("\n")) {
            boolean field = line.matches("    (    )?(private )?final [\\w\\[\\]]+ \\w+ = new .*;");
            boolean image = line.trim().equals("images[n] = new Kept();");
            Due.holds("made: " + line.trim(), !line.contains(" new ") || field || image);
        }
    }

    private static void classes(String text) {
        Due.part("LANGUAGE.md, classes");
        int classes = 0;
        for (String line : text.split("\n")) {
            if (line.matches(" *[a-z ]*\\b(class|record|enum|interface) .*")) {
                classes++;
                boolean face = line.equals("public final class SilentCouncil {");
                Due.holds(line, face || line.matches("    private static final class \\w+ \\{"));
            }
        }
        Due.holds("classes: " + classes, classes > 0 && classes <= MOST_CLASSES);
    }

    private static void methods(String text) {
        Due.part("LANGUAGE.md, methods");
        String[] lines = text.split("\n");
        int methods = 0;
        for (int n = 0; n < lines.length; n++) {
            boolean body = lines[n].matches("    (    )?[\\w\\[\\] ]+\\(.*\\) \\{");
            if (body && !lines[n].matches(" *(if|for|while|switch) .*")) {
                methods++;
                String end = lines[n].replaceAll("\\S.*", "}");
                int last = n;
                while (last < lines.length && !lines[last].equals(end)) {
                    last++;
                }
                Due.holds("lines of" + lines[n], last - n < MOST_LINES);
                Due.holds("parameters of" + lines[n], lines[n].split(",").length <= MOST_PARAMETERS);
            }
        }
        Due.holds("methods: " + methods, methods > 60);
    }
}
