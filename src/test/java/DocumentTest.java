import java.io.IOException;
import java.nio.charset.StandardCharsets;
import java.nio.file.Files;
import java.nio.file.Path;
import java.util.ArrayList;
import java.util.List;
import java.util.regex.Matcher;
import java.util.regex.Pattern;

/** The class says its face in the document's words: each line of it, in its order, below the heads of its parts. */
public final class DocumentTest {
    private static final Pattern INTERFACE = Pattern.compile(
            "```java\npublic final class Warren \\{\n(.*?)\n\\}\n```", Pattern.DOTALL);
    private static final Pattern PART = Pattern.compile("Ahead of the calls (`.*?`) the interface says: (---- .*)\\.");
    private static final Pattern PROMISE = Pattern.compile("(?m)^## Promise (\\d+): (.*)$");
    private static final int METHODS = 25;
    private static final int PARTS = 6;
    private static final int PROMISES = 26;

    private static int wrong = 0;

    public static void main(String[] args) throws IOException {
        Path where = Path.of(System.getProperty("warren.document", "../shared/DOC.md"));
        if (!Files.exists(where)) {
            System.out.println("DocumentTest: no document at " + where + "; FaceTest alone asks for the face");
            return;
        }
        String document = read(where);
        String code = read(Path.of(System.getProperty("warren.source", "src/main/java/Warren.java")));
        List<String> lines = linesOfTheFace(document);
        theFaceStandsInItsOrder(lines, code.replaceAll("\\s+", " "));
        nothingElseIsPublic(lines, code);
        thePartsHaveTheirHeads(document, code);
        thePromisesAreTheCalls(document, lines);
        System.out.println("DocumentTest: " + lines.size() + " lines, " + wrong + " wrong");
        if (wrong != 0) {
            System.exit(1);
        }
    }

    private static String read(Path path) throws IOException {
        return Files.readString(path, StandardCharsets.UTF_8);
    }

    private static void due(boolean isRight, String what) {
        if (!isRight) {
            wrong++;
            System.out.println("DocumentTest: " + what);
        }
    }

    private static List<String> linesOfTheFace(String document) {
        List<String> lines = new ArrayList<>();
        Matcher face = INTERFACE.matcher(document);
        if (face.find()) {
            for (String line : face.group(1).split("\n")) {
                lines.add(line.trim().replace(";", ""));
            }
        }
        due(lines.size() == METHODS + 1, "the document's face has " + lines.size() + " lines");
        return lines;
    }

    private static void theFaceStandsInItsOrder(List<String> lines, String code) {
        int from = 0;
        for (String line : lines) {
            int at = code.indexOf(line + " {", from);
            due(at >= 0, "not said, or not in its order: " + line);
            from = Math.max(at, from);
        }
    }

    private static void nothingElseIsPublic(List<String> lines, String code) {
        int publics = code.split("\\bpublic\\b", -1).length - 1;
        due(publics == lines.size() + 1, "public stands " + publics + " times");
    }

    /** The head of a part stands ahead of its first call, and behind the last one of the part before. */
    private static void thePartsHaveTheirHeads(String document, String code) {
        Matcher part = PART.matcher(document);
        int parts = 0;
        int from = 0;
        while (part.find()) {
            parts++;
            int head = code.indexOf("    // " + part.group(2) + "\n", from);
            due(head >= from, "no head, or not in its place: " + part.group(2));
            from = Math.max(head, from);
            for (String call : part.group(1).replace("`", "").split(", ")) {
                int at = placeOf(call, code);
                due(at > from, call + " does not stand below " + part.group(2));
                from = Math.max(at, from);
            }
        }
        due(parts == PARTS, parts + " parts");
    }

    private static int placeOf(String call, String code) {
        Matcher head = Pattern.compile("\n    public \\w+ " + call + "\\(").matcher(code);
        return head.find() ? head.start() : -1;
    }

    private static void thePromisesAreTheCalls(String document, List<String> lines) {
        Matcher promise = PROMISE.matcher(document);
        int number = 0;
        while (promise.find()) {
            number++;
            String line = number <= lines.size() ? lines.get(number - 1) : "nothing";
            String call = number == 1 ? "Warren" : promise.group(2);
            due(promise.group(1).equals(Integer.toString(number)), "promise " + promise.group(1));
            due(line.contains(" " + call + "("), "promise " + number + " is told of " + line);
        }
        due(number == PROMISES, number + " promises");
    }
}
