import java.io.IOException;
import java.nio.file.Files;
import java.nio.file.Path;
import java.util.Map;
import java.util.TreeMap;
import java.util.regex.Matcher;
import java.util.regex.Pattern;

/** The document by its headings, and which of its words no test has held the class to yet. */
final class Sentences {
    private static final Path DOC = Path.of("../shared/DOC.md");
    /** What is no sentence: a call's own line, the fences of a text, and where the interface says but a title. */
    private static final Pattern NO_SENTENCE = Pattern.compile("`[^`]*`:|```(text|java)?|==== \\d |"
            + "Ahead of the calls .*? the interface says: ----( 1 people, suits, deeds\\.| what is done\\.| 2 foretold\\.)?");
    private final Map<String, StringBuilder> open = new TreeMap<>();
    private final Map<String, String> whole = new TreeMap<>();

    Sentences() throws IOException {
        for (String part : Files.readString(DOC).split("(?m)^## ")) {
            int end = part.indexOf('\n');
            String name = part.substring(0, end).replaceFirst(":.*", "").trim();
            String text = part.substring(end).replaceAll("\\s+", " ");
            whole.put(name, text);
            open.put(name, new StringBuilder(NO_SENTENCE.matcher(text).replaceAll(Sentences::blanked)));
        }
    }

    private static String blanked(java.util.regex.MatchResult found) {
        return " ".repeat(found.group().length());
    }

    /** Whether the words stand under the heading; they count as held then. */
    boolean holds(String heading, String words) {
        String text = whole.getOrDefault(heading, "");
        int at = text.indexOf(words);
        boolean isThere = at >= 0;
        while (at >= 0) {
            open.get(heading).replace(at, at + words.length(), " ".repeat(words.length()));
            at = text.indexOf(words, at + words.length());
        }
        return isThere;
    }

    /** The first words under the heading that no test has named, or nothing. */
    String unheld(String heading) {
        Matcher rest = Pattern.compile("\\w.*?(?=  |$)").matcher(open.getOrDefault(heading, new StringBuilder("all of it")));
        return rest.find() ? rest.group() : "";
    }
}
