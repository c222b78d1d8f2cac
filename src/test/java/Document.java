import java.io.IOException;
import java.nio.charset.StandardCharsets;
import java.nio.file.Files;
import java.nio.file.Path;
import java.util.ArrayList;
import java.util.Arrays;
import java.util.List;

/** The sentences of the document, so that each can be held against the tests that quote it. */
final class Document {
    private static final Path PLACE = Path.of("..", "shared", "DOC.md");

    private Document() {
    }

    static boolean isAtHand() {
        return Files.exists(PLACE);
    }

    private static List<String> linesUnder(String heading) {
        List<String> lines = new ArrayList<>();
        boolean isUnder = false;
        try {
            for (String line : Files.readAllLines(PLACE, StandardCharsets.UTF_8)) {
                if (line.startsWith("## ")) {
                    isUnder = line.startsWith(heading);
                } else if (isUnder && !line.isBlank()) {
                    lines.add(line);
                }
            }
        } catch (IOException e) {
            throw new AssertionError(e);
        }
        return lines;
    }

    /** What stands under the heading of a promise: what the call does, its parameters, what it returns and throws. */
    static List<String> promise(int number) {
        List<String> sentences = new ArrayList<>();
        for (String line : linesUnder("## Promise " + number + ":")) {
            String sentence = line.startsWith("- ") ? line.substring(2) : line;
            boolean isDescription = sentences.isEmpty() && sentence.startsWith("`");
            sentences.add(isDescription ? sentence.substring(sentence.indexOf("`: ") + 3) : sentence);
        }
        return sentences;
    }

    /** The sentences of the terms, without the word that names a paragraph. */
    static List<String> terms() {
        List<String> sentences = new ArrayList<>();
        for (String line : linesUnder("## Terms")) {
            if (!line.startsWith("Ahead of the calls")) {
                sentences.addAll(Arrays.asList(line.substring(line.indexOf(". ") + 2).split("(?<=\\.) ")));
            }
        }
        return sentences;
    }
}
