import java.io.IOException;
import java.nio.file.Files;
import java.nio.file.Path;
import java.util.ArrayList;
import java.util.LinkedHashMap;
import java.util.List;
import java.util.Map;
import java.util.Set;
import java.util.regex.Matcher;
import java.util.regex.Pattern;

/** The document's sentences by their sections, and those that tests have quoted. */
final class Sentences {
    private static final Pattern HEADING = Pattern.compile("## ([^:]*).*");
    private static final Pattern TERM = Pattern.compile("([A-Z][a-z]+)\\. (.*)");
    private static final String SIGNATURE = "^`[^`]*`: ";

    private final Map<String, List<String>> paragraphs = new LinkedHashMap<>();
    private final Map<String, List<String>> quotes = new LinkedHashMap<>();
    private String heading = "";
    private String section = "";
    private final StringBuilder paragraph = new StringBuilder();

    Sentences() throws IOException {
        Path root = Path.of(System.getProperty("project.root", "."));
        boolean inCode = false;
        for (String row : Files.readAllLines(root.resolve("../shared/DOC.md"))) {
            if (row.startsWith("```")) {
                inCode = !inCode;
            } else if (!inCode) {
                take(row);
            }
        }
        endParagraph();
    }

    private void take(String row) {
        Matcher matcher = HEADING.matcher(row);
        if (matcher.matches()) {
            endParagraph();
            heading = matcher.group(1);
            section = heading;
            return;
        }
        if (row.isBlank() || row.startsWith("- ")) {
            endParagraph();
        }
        paragraph.append(paragraph.length() == 0 ? "" : " ").append(row.trim());
    }

    /** Each term starts with its name, which makes a section of its own. */
    private void endParagraph() {
        String text = paragraph.toString().trim();
        paragraph.setLength(0);
        Matcher matcher = TERM.matcher(text);
        if (heading.equals("Terms") && matcher.matches()) {
            section = matcher.group(1);
            text = matcher.group(2);
        }
        if (!text.isEmpty() && !section.isEmpty()) {
            paragraphs.computeIfAbsent(section, name -> new ArrayList<>()).add(text.replaceFirst(SIGNATURE, ""));
        }
    }

    /** Answers whether the section has these words. */
    boolean quote(String name, String words) {
        quotes.computeIfAbsent(name, key -> new ArrayList<>()).add(words);
        return String.join(" ", paragraphs.getOrDefault(name, List.of())).contains(words);
    }

    Set<String> sections() {
        return paragraphs.keySet();
    }

    /** The sentences of a section of which no test has quoted anything. */
    List<String> leftOut(String name) {
        List<String> left = new ArrayList<>();
        for (String text : paragraphs.getOrDefault(name, List.of())) {
            for (String sentence : text.split("(?<=\\.) (?=[A-Z])")) {
                if (!isQuoted(name, sentence)) {
                    left.add(sentence);
                }
            }
        }
        return left;
    }

    private boolean isQuoted(String name, String sentence) {
        for (String words : quotes.getOrDefault(name, List.of())) {
            if (words.contains(sentence) || sentence.contains(words)) {
                return true;
            }
        }
        return false;
    }
}
