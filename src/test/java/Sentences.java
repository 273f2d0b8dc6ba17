import java.io.IOException;
import java.nio.file.Files;
import java.nio.file.Path;
import java.util.ArrayList;
import java.util.List;
import java.util.Map;
import java.util.TreeMap;

/** The sentences of the document, and which of them are quoted by a test. */
final class Sentences {
    private static final Map<String, String> SECTIONS = sections();
    private static final Map<String, List<String>> QUOTES = new TreeMap<>();

    private Sentences() {
    }

    private static Map<String, String> sections() {
        Map<String, String> sections = new TreeMap<>();
        String document;
        try {
            document = Files.readString(Path.of("../shared/DOC.md"));
        } catch (IOException e) {
            throw new AssertionError(e);
        }
        for (String section : document.split("(?m)^## ")) {
            int end = section.indexOf('\n');
            sections.put(section.substring(0, end).replaceAll("(Promise \\d+):.*", "$1"), section.substring(end + 1));
        }
        return sections;
    }

    private static String flat(String text) {
        return text.replaceAll("\\s+", " ").strip();
    }

    /** Tells that a test holds a sentence, or a part of one, which must be the document's own words. */
    static void quote(String section, String words) {
        String text = SECTIONS.get(section);
        Check.due("\"" + words + "\" stands under " + section, text != null && flat(text).contains(words), true);
        QUOTES.computeIfAbsent(section, s -> new ArrayList<>()).add(words);
    }

    /** Each clause of what the document promises is held by a test, up to a full stop or a semicolon. */
    static void allAreQuoted() {
        int clauses = 0;
        for (Map.Entry<String, String> section : SECTIONS.entrySet()) {
            if (section.getKey().startsWith("Promise ") || section.getKey().equals("Terms")) {
                for (String clause : clauses(section.getValue())) {
                    clauses++;
                    Check.due("under " + section.getKey() + " a test holds \"" + clause + "\"",
                            isQuoted(section.getKey(), clause), true);
                }
            }
        }
        Check.due("some clauses", clauses > 200, true);
    }

    private static List<String> clauses(String section) {
        List<String> clauses = new ArrayList<>();
        String plain = section.replaceAll("(?m)^`[^`]*`: |^Ahead of the calls .*", "")
                .replaceAll("(?m)^- `\\w+`: ", "\n\n");
        for (String paragraph : plain.split("\n\\s*\n")) {
            for (String clause : flat(paragraph).split("(?<=[.;]) ")) {
                String words = clause.replaceAll("[.;]$", "");
                // The one word that a paragraph of the terms begins with is no sentence.
                if (words.contains(" ")) {
                    clauses.add(words);
                }
            }
        }
        return clauses;
    }

    private static boolean isQuoted(String section, String clause) {
        for (String quote : QUOTES.getOrDefault(section, List.of())) {
            if (quote.contains(clause)) {
                return true;
            }
        }
        return false;
    }
}
