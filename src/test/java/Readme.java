import java.io.IOException;
import java.nio.file.Files;
import java.nio.file.Path;
import java.util.ArrayList;
import java.util.List;
import java.util.regex.Matcher;
import java.util.regex.Pattern;

/** What stands in README.md and in the document, in parts. */
final class Readme {
    static final Path DOCUMENT = Path.of("../shared/DOC.md");

    private Readme() {
    }

    static String text() throws IOException {
        return Files.readString(Path.of("README.md"));
    }

    /** The blocks of that language: "java", "sh". */
    static List<String> blocks(String text, String language) {
        return found(text, "(?ms)^```" + language + "\n(.*?)^```$");
    }

    /** What the pattern's first group matches, wherever the pattern does. */
    static List<String> found(String text, String pattern) {
        List<String> all = new ArrayList<>();
        Matcher matcher = Pattern.compile(pattern).matcher(text);
        while (matcher.find()) {
            all.add(matcher.group(1));
        }
        return all;
    }

    /** From a heading to the next one. */
    static String section(String text, String heading) {
        List<String> parts = found(text, "(?ms)^#+ " + Pattern.quote(heading) + "$(.*?)(?=^#+ |\\z)");
        return parts.size() == 1 ? parts.get(0) : "";
    }

    /** The methods of the face as the document writes them, without "public" and ";". */
    static List<String> face() throws IOException {
        return found(Files.readString(DOCUMENT), "(?m)^    public ((?:int|long) \\w+\\([^)]*\\));$");
    }
}
