import java.io.IOException;
import java.lang.reflect.Field;
import java.lang.reflect.Method;
import java.lang.reflect.Modifier;
import java.nio.file.Files;
import java.nio.file.Path;
import java.util.Arrays;
import java.util.HashSet;
import java.util.List;
import java.util.Set;
import java.util.regex.Matcher;
import java.util.regex.Pattern;

/** The rules of LANGUAGE.md that can be seen in the source, or in the class by reflection. */
public final class LanguageTest {
    private static final Set<String> FACE = new HashSet<>(Arrays.asList("setPage", "addPiece",
            "removePiece", "setShare", "setFrame", "shift", "setLayer", "arrange", "append",
            "clearText", "load", "undo", "count", "piece", "seen", "inLayer", "covering", "edge",
            "hides", "byShare", "leastShift", "layerFor", "worst"));
    private static final Set<String> CONSTANTS = new HashSet<>(Arrays.asList("INVALID_ARGUMENT",
            "ILLEGAL_STATE", "CAPACITY_EXCEEDED", "NONE"));
    private static final Set<Class<?>> FIELD_TYPES = new HashSet<>(Arrays.asList(int.class,
            long.class, boolean.class, char.class, String.class, int[].class, long[].class,
            char[].class, byte[].class));

    public static void main(String[] args) throws IOException {
        face();
        classesInside();
        String path = args.length > 0 ? args[0] : "src/main/java/LaidPieces.java";
        String source = new String(Files.readAllBytes(Path.of(path)));
        faceAsWritten(source, Files.readAllLines(Path.of("..", "shared", "DOC.md")));
        groups(source, Files.readAllLines(Path.of("..", "shared", "DOC.md")));
        words(code(source));
        indexes(code(source));
        methodLengths(source);
        onlyConstructorsMake(code(source));
        Checks.end(LanguageTest.class);
    }

    private static void face() {
        Set<String> methods = new HashSet<>();
        for (Method m : LaidPieces.class.getDeclaredMethods()) {
            boolean isPublic = Modifier.isPublic(m.getModifiers());
            Checks.hold("rule 1: " + m, isPublic || Modifier.isPrivate(m.getModifiers()));
            Checks.hold("rule 1: " + m, isPublic == FACE.contains(m.getName()));
            if (isPublic) {
                methods.add(m.getName());
                Checks.hold("rule 1: " + m, m.getReturnType() == int.class);
            }
        }
        Checks.hold("rule 1: all methods of the face", methods.equals(FACE));
        for (Field f : LaidPieces.class.getDeclaredFields()) {
            boolean isPublic = Modifier.isPublic(f.getModifiers());
            Checks.hold("rule 1: " + f, isPublic == CONSTANTS.contains(f.getName()));
            Checks.hold("rule 1: " + f, isPublic || Modifier.isPrivate(f.getModifiers()));
        }
        Checks.due("rule 1: constructors", LaidPieces.class.getDeclaredConstructors().length, 1);
        Checks.due("rule 1: public constructors", LaidPieces.class.getConstructors().length, 1);
        Checks.hold("rule 1: public and final", Modifier.isFinal(LaidPieces.class.getModifiers())
                && Modifier.isPublic(LaidPieces.class.getModifiers()));
    }

    /** The face in the source is that of the document, word by word and in its order. */
    private static void faceAsWritten(String source, List<String> document) {
        boolean inside = false;
        int last = -1;
        int lines = 0;
        for (String line : document) {
            inside = line.startsWith("## ") ? line.equals("## The public face") : inside;
            if (inside && line.startsWith("public ")) {
                Checks.hold("rule 1: " + line, source.contains("\n" + line + "\n"));
            }
            if (inside && line.startsWith("    public ")) {
                lines++;
                String written = line.endsWith(");") ? line.replace(");", ") {") : line;
                int place = source.indexOf("\n" + written + "\n");
                Checks.hold("rule 1: \"" + line.trim() + "\" in its place", place > last);
                last = place;
            }
        }
        Checks.due("rule 1: lines of the face", lines, 28);
    }

    /** Ahead of the calls the source says what the document says that the interface says. */
    private static void groups(String source, List<String> document) {
        Pattern sentence = Pattern.compile("^Ahead of the calls (.*) the interface says: (.*)\\.$");
        int calls = 0;
        for (String line : document) {
            Matcher m = sentence.matcher(line);
            if (m.find()) {
                int begin = source.indexOf("\n    // " + m.group(2) + "\n");
                Checks.hold("the source says " + m.group(2), begin >= 0);
                int end = source.indexOf("\n    // ---- ", begin + 1);
                end = end < 0 ? source.length() : end;
                for (String call : m.group(1).split(", ")) {
                    calls++;
                    int place = source.indexOf("\n    public int " + call.replace("`", "") + "(");
                    Checks.hold(call + " behind " + m.group(2), begin < place && place < end);
                }
            }
        }
        Checks.due("calls in groups", calls, 23);
    }

    private static void classesInside() {
        Class<?>[] inside = LaidPieces.class.getDeclaredClasses();
        Checks.hold("rule 11: a dozen classes", inside.length <= 11);
        List<Class<?>> all = new java.util.ArrayList<>(Arrays.asList(inside));
        all.add(LaidPieces.class);
        for (Class<?> c : all) {
            boolean outer = c == LaidPieces.class;
            Checks.hold("rule 2: " + c, outer || Modifier.isStatic(c.getModifiers()));
            Checks.hold("rule 1: " + c, outer || !Modifier.isPublic(c.getModifiers()));
            int fields = 0;
            for (Field f : c.getDeclaredFields()) {
                boolean isStatic = Modifier.isStatic(f.getModifiers());
                fields += isStatic ? 0 : 1;
                Checks.hold("rule 5: " + f, !isStatic || Modifier.isFinal(f.getModifiers())
                        && FIELD_TYPES.contains(f.getType()));
            }
            Checks.hold("rule 11: fields of " + c, fields <= 20);
            for (Method m : c.getDeclaredMethods()) {
                Checks.hold("rule 11: " + m, m.getParameterCount() <= 7);
                Checks.hold("rule 1: " + m, outer || !FACE.contains(m.getName()));
            }
        }
    }

    /** The source without comments and without what stands in quotes. */
    private static String code(String source) {
        return source.replaceAll("(?s)/\\*.*?\\*/", "").replaceAll("//[^\n]*", "")
                .replaceAll("\"[^\"\n]*\"", "\"\"").replaceAll("'[^'\n]'", "''");
    }

    private static void words(String code) {
        String[] banned = {"throw", "throws", "try", "catch", "synchronized", "assert", "var",
            "Exception", "Object", "Random", "Thread", "System\\.(?!arraycopy)", "equals",
            "hashCode", "toString", "volatile", "transient", "native", "goto", "yield", "->", "::",
            "package", "protected", "Math\\.\\w+Exact", "@"};
        for (String word : banned) {
            String edge = Character.isLetter(word.charAt(0)) ? "\\b" : "";
            String end = Character.isLetter(word.charAt(word.length() - 1)) ? "\\b" : "";
            Checks.hold("no " + word, !Pattern.compile(edge + word + end).matcher(code).find());
        }
        Matcher imports = Pattern.compile("import ([^;]*);").matcher(code);
        while (imports.find()) {
            Checks.hold("rule 4: " + imports.group(), imports.group(1).equals("java.util.Arrays"));
        }
        Matcher joined = Pattern.compile("\"\"\\s*\\+|\\+\\s*\"\"").matcher(code);
        Checks.hold("rule 10: no texts joined by +", !joined.find());
        for (int i = 0; i < code.length(); i++) {
            Checks.hold("plain signs alone", code.charAt(i) < 127);
        }
    }

    /** An element is used only in a line, or behind one, that looks at its index. */
    private static void indexes(String code) {
        String[] lines = code.split("\n");
        Pattern element = Pattern.compile("\\w+\\[(\\w+)\\]");
        for (int i = 1; i < lines.length; i++) {
            Matcher m = element.matcher(lines[i]);
            while (m.find()) {
                String tested = m.group(1) + " < ";
                Checks.hold("rule 7: " + lines[i].trim(), lines[i].contains("new ")
                        && Character.isUpperCase(m.group(1).charAt(0))
                        || (lines[i - 1] + lines[i]).contains(tested));
            }
            Checks.hold("rule 7: " + lines[i].trim(), !Pattern.compile("\\w\\[[^\\]]*[^\\w\\]]")
                    .matcher(lines[i].replaceAll("new int\\[[^;]*", "")).find());
        }
    }

    /** All calls of a run live in one room, so no call makes an object or an array. */
    private static void onlyConstructorsMake(String code) {
        Pattern constructor = Pattern.compile("( {4}public | {8})[A-Z]\\w*\\(.*\\) \\{");
        boolean inside = false;
        int made = 0;
        for (String line : code.split("\n")) {
            if (constructor.matcher(line).matches()) {
                inside = true;
            } else if (line.matches("( {4}| {8})\\}")) {
                inside = false;
            }
            if (line.contains("new ")) {
                made++;
                Checks.hold("made in a constructor: " + line.trim(), inside);
            }
        }
        Checks.hold("something is made", made > 0);
    }

    private static void methodLengths(String source) {
        int start = -1;
        String[] lines = source.split("\n");
        for (int i = 0; i < lines.length; i++) {
            if (lines[i].matches("( {4}| {8})(public|private|static|\\w+(\\[\\])?) .*\\(.*")
                    && !lines[i].contains(";")) {
                start = i;
            }
            if (lines[i].matches("( {4}| {8})\\}") && start >= 0) {
                Checks.hold("rule 11: the method in line " + (start + 1), i - start < 60);
                start = -1;
            }
            Checks.hold("a short line " + (i + 1), lines[i].length() <= 100);
        }
    }
}
