import java.io.IOException;
import java.io.UncheckedIOException;
import java.nio.file.Files;
import java.nio.file.Path;
import java.util.ArrayList;
import java.util.HashSet;
import java.util.LinkedHashMap;
import java.util.List;
import java.util.Map;
import java.util.Set;

/** The sentences of the document, by their sections, and which of them the tests have quoted. */
final class Doc {
    private static final Map<String, List<String>> SECTIONS = new LinkedHashMap<>();
    private static final Set<String> SAID = new HashSet<>();

    static {
        read(Path.of("..", "shared", "DOC.md"));
    }

    private Doc() {
    }

    /** Tells by its beginning which sentence of a section the checks that follow are about. */
    static void says(String section, String beginning) {
        Checks.about(section + ", \"" + beginning + "\"");
        int found = 0;
        for (String sentence : SECTIONS.getOrDefault(section, List.of())) {
            if (sentence.startsWith(beginning)) {
                SAID.add(section + ": " + sentence);
                found++;
            }
        }
        Checks.due("the number of sentences in the document", found, 1);
    }

    /** Checks that each sentence has been quoted. */
    static void allSaid() {
        Checks.about("the sentences of the document");
        int promises = 0;
        for (Map.Entry<String, List<String>> section : SECTIONS.entrySet()) {
            promises += section.getKey().startsWith("Promise ") ? 1 : 0;
            for (String sentence : section.getValue()) {
                String whole = section.getKey() + ": " + sentence;
                Checks.hold("the test of \"" + whole + "\"", SAID.contains(whole));
            }
        }
        Checks.due("the number of promises", promises, 24);
    }

    private static void read(Path path) {
        try {
            String section = "";
            List<String> block = new ArrayList<>();
            for (String line : Files.readAllLines(path)) {
                boolean isHeading = line.startsWith("#");
                if (isHeading || line.isBlank() || line.startsWith("- ") || line.startsWith("  ")) {
                    keep(section, String.join(" ", block));
                    block.clear();
                }
                if (isHeading) {
                    section = line.replaceAll("^#+ ", "").replaceAll("^(Promise \\d+):.*", "$1");
                } else if (!line.isBlank() && !line.startsWith("```")) {
                    block.add(line.replaceAll("^- ", "").replaceAll("\\s+", " ").trim());
                }
            }
            keep(section, String.join(" ", block));
        } catch (IOException e) {
            throw new UncheckedIOException(e);
        }
        // The face is looked at by LanguageTest, and the last section tells what is left free.
        SECTIONS.remove("The public face");
        SECTIONS.remove("Not promised");
    }

    /** Keeps the sentences of some lines, without the head of the method that they tell of. */
    private static void keep(String section, String lines) {
        boolean isName = lines.equals("# LaidPieces") || lines.startsWith("Pieces of paper");
        if (lines.isEmpty() || isName || lines.startsWith("Ahead of the calls")) {
            return;
        }
        List<String> sentences = SECTIONS.computeIfAbsent(section, s -> new ArrayList<>());
        String text = lines.replaceAll("^`[^`]*\\)`: ", "");
        sentences.addAll(List.of(text.split("(?<=[.]|[.]\\)) ")));
    }
}
