import java.io.IOException;
import java.io.UncheckedIOException;
import java.nio.file.Files;
import java.nio.file.Path;
import java.util.ArrayList;
import java.util.List;
import java.util.regex.Matcher;
import java.util.regex.Pattern;

/** What the document says, for tests that name its sentences. */
final class Document {
    private static final String TEXT = read();

    private Document() {
    }

    private static String read() {
        try {
            return Files.readString(Path.of("../shared/DOC.md"));
        } catch (IOException e) {
            throw new UncheckedIOException(e);
        }
    }

    static boolean says(String words) {
        return TEXT.replaceAll("\\s+", " ").contains(words);
    }

    /** The declarations of the public face, the constructor first, each without its semicolon. */
    static List<String> face() {
        String face = TEXT.substring(TEXT.indexOf("```java"));
        face = face.substring(0, face.indexOf("\n}"));
        List<String> lines = new ArrayList<>();
        Matcher line = Pattern.compile("(?m)^ +(public [^;]*);").matcher(face);
        while (line.find()) {
            lines.add(line.group(1));
        }
        return lines;
    }

    /** Each refusal as "2 IllegalStateException if there are 4 variables", 2 the promise. */
    static List<String> refusals() {
        List<String> refusals = new ArrayList<>();
        String promise = "";
        Pattern thrown = Pattern.compile("Throws `(\\w+)` (if .*)");
        for (String line : TEXT.split("\n")) {
            if (line.startsWith("## Promise ")) {
                promise = line.replaceAll("## Promise (\\d+):.*", "$1");
            }
            Matcher refusal = thrown.matcher(line);
            if (refusal.matches()) {
                refusals.add(promise + " " + refusal.group(1) + " " + refusal.group(2).trim());
            }
        }
        return refusals;
    }
}
