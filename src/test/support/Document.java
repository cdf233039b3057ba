import java.io.IOException;
import java.io.UncheckedIOException;
import java.nio.charset.StandardCharsets;
import java.nio.file.Files;
import java.nio.file.Path;
import java.util.LinkedHashMap;
import java.util.LinkedHashSet;
import java.util.Map;
import java.util.Set;
import java.util.regex.Matcher;
import java.util.regex.Pattern;

/** The document's sentences by the part that says them: its chapter, a reason's name, or what a promise is about. */
final class Document {
    private static final Pattern REASON = Pattern.compile("(?:The constants: )?`(([A-Z_]+) = \\d+)`: (.*)");

    private final Map<String, Set<String>> sentences = new LinkedHashMap<>();

    Document() {
        for (String chapter : read().split("(?m)^## ")) {
            String title = chapter.substring(0, chapter.indexOf('\n'));
            String body = chapter.substring(title.length());
            if (title.equals("What it is")) {
                for (String paragraph : body.split("\n\\s*\n")) {
                    keep(title, plain(paragraph));
                }
            } else if (title.equals("Terms")) {
                readTerms(body);
            } else if (title.startsWith("Promise ")) {
                String name = title.substring(title.indexOf(": ") + 2);
                for (String paragraph : body.split("\n\\s*\n|\n(?=- )")) {
                    keep(name, plain(paragraph).replaceFirst("^- ", "").replaceFirst("^`[^`]*\\([^`]*`: ", ""));
                }
            }
        }
    }

    Map<String, Set<String>> sentences() {
        return sentences;
    }

    private static String read() {
        try {
            return Files.readString(Path.of("../shared/DOC.md"), StandardCharsets.UTF_8);
        } catch (IOException e) {
            throw new UncheckedIOException(e);
        }
    }

    private static String plain(String paragraph) {
        return paragraph.trim().replaceAll("\\s+", " ");
    }

    private void readTerms(String body) {
        for (String paragraph : body.split("\n\\s*\n")) {
            String text = plain(paragraph);
            Matcher reason = REASON.matcher(text);
            if (reason.matches()) {
                keep(reason.group(2), reason.group(1));
                keep(reason.group(2), reason.group(3));
            } else if (!text.startsWith("Ahead of the calls")) {
                keep("Terms", text.replaceFirst("^[A-Z][a-z]+\\. ", ""));
            }
        }
    }

    private void keep(String part, String text) {
        Set<String> known = sentences.computeIfAbsent(part, name -> new LinkedHashSet<>());
        for (String sentence : text.split("(?<=\\.) (?=[A-Z\"])")) {
            if (!sentence.isEmpty()) {
                known.add(sentence);
            }
        }
    }
}
