import java.io.IOException;
import java.nio.file.Files;
import java.nio.file.Path;
import java.util.ArrayList;
import java.util.List;
import java.util.Map;
import java.util.Set;
import java.util.TreeMap;

/** The sentences of the document that name an edge, and which of their words a test has quoted. */
final class Document {
    /** The section of all that is no promise. */
    static final int TERMS = 0;

    private static final Path FILE = Path.of("../shared/DOC.md");
    private static final Set<String> EDGE_WORDS = Set.of("least", "lowest", "most", "first", "down", "without", "none", "otherwise",
            "before", "once", "aside");
    /** Words that say nothing alone. */
    private static final Set<String> LINKS = Set.of("a", "all", "and", "are", "by", "if", "is", "it", "number", "or", "returns", "the",
            "there", "these");

    private static final class Sentence {
        final String text;
        /** Whether a test must quote it; others may be quoted. */
        final boolean isDue;
        final boolean[] isQuoted;

        Sentence(String text, boolean isDue) {
            this.text = text;
            this.isDue = isDue;
            this.isQuoted = new boolean[text.length()];
        }

        boolean quote(String words) {
            int start = text.indexOf(words);
            for (int from = start; from >= 0; from = text.indexOf(words, from + 1)) {
                for (int place = from; place < from + words.length(); place++) {
                    isQuoted[place] = true;
                }
            }
            return start >= 0;
        }

        List<String> left() {
            StringBuilder rest = new StringBuilder();
            for (int place = 0; place < text.length(); place++) {
                rest.append(isQuoted[place] ? ' ' : text.charAt(place));
            }
            List<String> left = new ArrayList<>();
            for (String word : rest.toString().split("[^A-Za-z0-9]+")) {
                if (!word.isEmpty() && !LINKS.contains(word.toLowerCase())) {
                    left.add(word);
                }
            }
            return left;
        }
    }

    private final Map<Integer, List<Sentence>> sections = new TreeMap<>();
    private final Map<Integer, List<String>> exceptions = new TreeMap<>();

    Document() throws IOException {
        for (String section : Files.readString(FILE).split("\n## ")) {
            String[] paragraphs = section.split("\n\n");
            if (paragraphs[0].startsWith("Promise ")) {
                int colon = paragraphs[0].indexOf(':');
                readPromise(Integer.parseInt(paragraphs[0].substring(8, colon)), paragraphs);
            } else if (paragraphs[0].equals("Terms") || paragraphs[0].equals("What it is")) {
                readTerms(section);
            }
        }
    }

    private void readTerms(String section) {
        StringBuilder whole = new StringBuilder();
        for (String paragraph : section.split("\n\n")) {
            if (paragraph.contains(".") && !paragraph.startsWith("Ahead of ") && !paragraph.startsWith("A works of ")) {
                whole.append(paragraph).append('\n');
            }
        }
        for (String sentence : plain(whole.toString()).split("\\. ?")) {
            if (sentence.contains(" ")) {
                add(TERMS, sentence, true);
            }
        }
    }

    private void readPromise(int promise, String[] paragraphs) {
        exceptions.put(promise, new ArrayList<>());
        for (int number = 1; number < paragraphs.length; number++) {
            for (String part : paragraphs[number].split("\n- ")) {
                String text = plain(part);
                if (text.startsWith("Throws `")) {
                    exceptions.get(promise).add(text.substring(8, text.indexOf('`', 8)));
                    add(promise, text.substring(text.indexOf(" if ") + 4), true);
                } else {
                    text = number == 1 || text.contains("`: ") ? text.substring(text.indexOf("`: ") + 1) : text;
                    add(promise, text, namesEdge(text));
                }
            }
        }
    }

    private static boolean namesEdge(String text) {
        for (String word : text.split("[^A-Za-z0-9]+")) {
            if (EDGE_WORDS.contains(word) || word.matches("[0-9]+")) {
                return true;
            }
        }
        return false;
    }

    private void add(int section, String sentence, boolean isDue) {
        sections.computeIfAbsent(section, number -> new ArrayList<>()).add(new Sentence(sentence, isDue));
    }

    private static String plain(String text) {
        return text.trim().replaceAll("\\s+", " ");
    }

    void quote(int section, String words) {
        boolean isFound = false;
        for (Sentence sentence : sections.getOrDefault(section, List.of())) {
            isFound |= sentence.quote(words);
        }
        if (!isFound) {
            Check.fails("section " + section + " of the document does not say: " + words);
        }
    }

    /** Each word of a sentence that is due, and that no test has quoted, is a fault. */
    void demandAllQuoted() {
        for (Map.Entry<Integer, List<Sentence>> section : sections.entrySet()) {
            for (Sentence sentence : section.getValue()) {
                if (sentence.isDue && !sentence.left().isEmpty()) {
                    Check.fails("no test asks section " + section.getKey() + ": " + sentence.left() + " of: " + sentence.text);
                }
            }
        }
    }

    /** The exceptions of each promise, in their order. */
    Map<Integer, List<String>> exceptions() {
        return exceptions;
    }
}
