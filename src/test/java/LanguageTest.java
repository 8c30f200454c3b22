import java.io.IOException;
import java.nio.charset.StandardCharsets;
import java.nio.file.Files;
import java.nio.file.Path;
import java.util.List;
import java.util.Set;
import java.util.regex.Matcher;
import java.util.regex.Pattern;

/** What of ../shared/LANGUAGE.md can be seen in the text of the class. */
public final class LanguageTest {
    private static final Set<String> IMPORTS =
            Set.of("import java.util.ArrayList;", "import java.util.Arrays;", "import java.util.List;");
    private static final Set<String> LIBRARY = Set.of("System.arraycopy", "Arrays.fill", "Math.min", "Math.max",
            "Math.abs", "Math.floorDiv");
    private static final List<String> FORBIDDEN = List.of("package", "protected", "synchronized", "assert", "finally",
            "try", "catch", "instanceof", "native", "strictfp", "transient", "volatile", "var", "yield", "Object",
            "equals", "hashCode", "toString", "Random", "Thread", "Runtime", "super", "float", "Double", "Long",
            "StringBuilder", "String", "getClass", "null");
    private static final Pattern CREATED = Pattern.compile("\\bnew\\s+(\\w+)");
    private static final Set<String> MADE = Set.of("State", "Mind", "Ways", "ArrayList", "int",
            "IllegalArgumentException", "IllegalStateException", "IndexOutOfBoundsException");

    private static int wrong = 0;

    public static void main(String[] args) throws IOException {
        String path = System.getProperty("warren.source", "src/main/java/Warren.java");
        String text = Files.readString(Path.of(path), StandardCharsets.ISO_8859_1);
        due(text.chars().allMatch(c -> c == '\n' || c >= 32 && c < 127), "a sign that is no ASCII");
        String code = bare(text);
        wordsAreAllowed(code);
        libraryIsAllowed(code);
        throwsAreWritten(code);
        methodsAreShort(code);
        System.out.println("LanguageTest: " + wrong + " wrong");
        if (wrong != 0) {
            System.exit(1);
        }
    }

    private static void due(boolean isRight, String what) {
        if (!isRight) {
            wrong++;
            System.out.println("LanguageTest: " + what);
        }
    }

    /** The code without its comments, each text in it as "". */
    private static String bare(String text) {
        String code = text.replaceAll("\"(?:[^\"\\\\\n]|\\\\.)*\"", "\"\"");
        return code.replaceAll("(?s)/\\*.*?\\*/", "").replaceAll("//[^\n]*", "");
    }

    private static void wordsAreAllowed(String code) {
        for (String word : FORBIDDEN) {
            due(!Pattern.compile("\\b" + word + "\\b").matcher(code).find(), "the word " + word);
        }
        for (String sign : List.of("->", "::", "@", "\" +", "+ \"")) {
            due(!code.contains(sign), "the sign " + sign);
        }
        for (String line : code.split("\n")) {
            due(!line.startsWith("import") || IMPORTS.contains(line.trim()), line);
            due(!line.contains(" static ") || line.contains("(") || line.contains(" final "), line.trim());
        }
    }

    private static void libraryIsAllowed(String code) {
        Matcher call = Pattern.compile("\\b(System|Arrays|Math|Integer|Character)\\.\\w+").matcher(
                code.replaceAll("import [^\n]*", ""));
        while (call.find()) {
            due(LIBRARY.contains(call.group()), call.group());
        }
        Matcher created = CREATED.matcher(code);
        while (created.find()) {
            due(MADE.contains(created.group(1)), created.group());
        }
    }

    private static void throwsAreWritten(String code) {
        Matcher thrown = Pattern.compile("\\bthrow\\b[^;]*;").matcher(code);
        while (thrown.find()) {
            due(thrown.group().matches("throw new \\w+\\(\"\"\\);"), thrown.group());
        }
    }

    private static void methodsAreShort(String code) {
        Pattern head = Pattern.compile(
                "( {4}(?:public|private)| {8}(?:private|static|boolean|int|void|State\\())[^=;]*\\(.*");
        String[] rows = code.split("\n");
        int methods = 0;
        for (int first = 0; first < rows.length; first++) {
            if (head.matcher(rows[first]).matches()) {
                String end = rows[first].startsWith("        ") ? "        }" : "    }";
                int last = first;
                while (last < rows.length && !rows[last].equals(end)) {
                    last++;
                }
                methods++;
                due(last - first < 60, "more than 60 lines: " + rows[first].trim());
            }
        }
        due(methods > 50, "only " + methods + " methods were found");
    }
}
