import java.io.IOException;
import java.nio.file.Files;
import java.nio.file.Path;
import java.util.ArrayList;
import java.util.List;
import java.util.regex.Matcher;
import java.util.regex.Pattern;

/** README.md: its calls and texts answer what it says, and it tells of each method. */
public final class ReadmeTest {
    private static final Pattern METHOD = Pattern.compile("public int (\\w+)\\(([^)]*)\\);");
    private static final Pattern CODE = Pattern.compile(
            "INVALID_ARGUMENT|ILLEGAL_STATE|CAPACITY_EXCEEDED|NONE|-1000");
    private static final Pattern CALL = Pattern.compile(
            "^pieces\\.(\\w+\\([-0-9, ]*\\)); +// (-?\\d+|[A-Z_]+)(:|$)");
    private static final Pattern TEXT = Pattern.compile("^\\| `([^`]*)` \\| (-?\\d+) \\|");

    public static void main(String[] args) throws IOException {
        List<String> readme = Files.readAllLines(Path.of("README.md"));
        List<String> document = Files.readAllLines(Path.of("..", "shared", "DOC.md"));
        rowsOfMethods(readme, document);
        numbersOfLooks(readme);
        examples(readme);
        texts(readme);
        files(readme);
        Checks.end(ReadmeTest.class);
    }

    /** Each method has one row, with its arguments and the codes that the document names. */
    private static void rowsOfMethods(List<String> readme, List<String> document) {
        int methods = 0;
        for (String line : document) {
            Matcher m = METHOD.matcher(line);
            if (m.find()) {
                methods++;
                String head = "| `" + m.group(1) + "(" + m.group(2).replace("int ", "") + ")` |";
                List<String> rows = beginning(readme, head);
                Checks.due("README.md: rows of " + m.group(1), rows.size(), 1);
                for (String row : rows) {
                    String codes = row.substring(row.lastIndexOf('|', row.length() - 2));
                    Checks.hold("README.md: the codes of " + m.group(1),
                            codes(codes).equals(codes(answerOf(m.group(1), document))));
                }
            }
        }
        Checks.due("README.md: methods", methods, 23);
    }

    private static List<String> beginning(List<String> lines, String beginning) {
        List<String> found = new ArrayList<>();
        for (String line : lines) {
            if (line.startsWith(beginning)) {
                found.add(line);
            }
        }
        return found;
    }

    /** The line of the document that says what a method returns. */
    private static String answerOf(String method, List<String> document) {
        boolean inside = false;
        String answer = "";
        for (String line : document) {
            if (line.startsWith("## ")) {
                inside = line.endsWith(": " + method);
            }
            if (inside && line.startsWith("Returns ")) {
                answer = line;
            }
        }
        return answer;
    }

    private static List<String> codes(String text) {
        List<String> codes = new ArrayList<>();
        Matcher m = CODE.matcher(text);
        while (m.find()) {
            codes.add(m.group());
        }
        return codes;
    }

    /** The numbers that count(what) and piece(piece, what) know have a row each. */
    private static void numbersOfLooks(List<String> readme) {
        Played p = new Played();
        p.addPiece(0, 0, 1, 1, 0);
        for (int what = 0; what <= 13; what++) {
            List<String> rows = beginning(readme, "| " + what + " |");
            Checks.due("README.md: rows of what " + what, rows.size(), what <= 12 ? 1 : 0);
            for (String row : rows) {
                String[] cells = row.split("\\|");
                Checks.hold("README.md: count(" + what + ")",
                        cells[2].isBlank() == (p.count(what) == Checks.INVALID));
                Checks.hold("README.md: piece(piece, " + what + ")",
                        cells[3].isBlank() == (p.piece(0, what) == Checks.INVALID));
            }
        }
    }

    /** The calls of the examples, each example on a new object. */
    private static void examples(List<String> readme) {
        Played p = new Played();
        boolean isExample = false;
        String text = "";
        int calls = 0;
        for (String line : readme) {
            if (line.startsWith("```")) {
                isExample = line.equals("```java");
            } else if (isExample && line.startsWith("LaidPieces pieces = new LaidPieces();")) {
                p = new Played();
            } else if (isExample && line.startsWith("String text = ")) {
                text = line.substring(line.indexOf('"') + 1, line.lastIndexOf('"'));
            } else if (isExample && line.contains("pieces.append(text.charAt(i));")) {
                Checks.type(p, text);
            } else if (isExample && line.startsWith("pieces.")) {
                Matcher m = CALL.matcher(line);
                boolean known = m.find();
                Checks.hold("README.md: a call and its answer in \"" + line + "\"", known);
                if (known) {
                    Checks.about("README.md");
                    Checks.rows(p, m.group(1) + " = " + m.group(2));
                    Checks.about("");
                    calls++;
                }
            }
        }
        Checks.hold("README.md: calls in its examples", calls >= 40);
    }

    private static void texts(List<String> readme) {
        int texts = 0;
        for (String line : readme) {
            Matcher m = TEXT.matcher(line);
            if (m.find()) {
                texts++;
                Checks.due("README.md: load() of \"" + m.group(1) + "\"",
                        Checks.loaded(new Played(), m.group(1)), Integer.parseInt(m.group(2)));
            }
        }
        Checks.hold("README.md: texts", texts >= 10);
    }

    /** The files that README.md names are there, and it names each test. */
    private static void files(List<String> readme) throws IOException {
        String all = String.join("\n", readme);
        for (String file : new String[] {".ci/run", "src/main/java/LaidPieces.java"}) {
            Checks.hold("README.md names " + file, all.contains(file));
            Checks.hold(file + " is there", Files.isRegularFile(Path.of(file)));
        }
        try (var sources = Files.newDirectoryStream(Path.of("src/test/java"), "*Test.java")) {
            for (Path source : sources) {
                String name = source.getFileName().toString().replace(".java", "");
                Checks.hold("README.md names " + name, all.contains("`" + name + "`"));
            }
        }
    }
}
