import java.io.IOException;
import java.nio.charset.StandardCharsets;
import java.nio.file.Files;
import java.nio.file.Path;
import java.util.ArrayList;
import java.util.HashMap;
import java.util.List;
import java.util.Map;
import java.util.regex.Matcher;
import java.util.regex.Pattern;

/**
 * The rules 5, 6, 8, 9, 11 and 12 of LANGUAGE.md, as far as the text of the class shows them: who calls whom, where it
 * throws, how its loops end, and what is made in them.
 */
public final class CallsTest {
    private static final int DEEPEST = 8;
    private static final Pattern HEAD = Pattern.compile(
            "(?m)^ +(public |private )?(?:static )?(?:(?:int|long|boolean|double|void) )?(\\w+)\\([^;{}]*\\)\\s*"
            + "(?:throws [\\w, \n]+)?\\{$");
    private static final Pattern CALL = Pattern.compile("\\b(\\w+)\\(");
    private static final Pattern THROWN = Pattern.compile("throw new (\\w+)\\(");
    private static final Pattern LOOP = Pattern.compile("\\b(for|while) \\((.*)\\) \\{");
    private static final Pattern COUNTED = Pattern.compile("int (\\w+) = [^;]+; \\1 <=? [^;]+; \\1\\+\\+");
    private static final List<String> NO_CALLS = List.of("for", "while", "if", "switch", "return", "catch");

    /** The bodies of all methods and constructors, by their names. */
    private final Map<String, String> bodies = new HashMap<>();
    private final List<String> open = new ArrayList<>();
    private final List<String> face = new ArrayList<>();
    private int wrong = 0;

    public static void main(String[] args) throws IOException {
        String path = System.getProperty("warren.source", "src/main/java/Warren.java");
        String text = Files.readString(Path.of(path), StandardCharsets.UTF_8);
        CallsTest test = new CallsTest();
        int deepest = test.ask(text.replaceAll("(?s)/\\*.*?\\*/", "").replaceAll("//[^\n]*", ""));
        System.out.println("CallsTest: " + test.bodies.size() + " methods, " + deepest + " calls deep, " + test.wrong
                + " wrong");
        if (test.wrong != 0) {
            System.exit(1);
        }
    }

    private void due(boolean isRight, String what) {
        if (!isRight) {
            wrong++;
            System.out.println("CallsTest: " + what);
        }
    }

    private int ask(String code) {
        findMethods(code);
        due(face.size() == 26 && bodies.size() > 70, face.size() + " and " + bodies.size() + " methods were found");
        int deepest = 0;
        for (String method : face) {
            int depth = depthOf(method);
            due(depth <= DEEPEST, method + " calls " + depth + " deep");
            deepest = Math.max(deepest, depth);
        }
        onlyTheFaceThrows();
        loopsEnd(code);
        arraysOfTheClassStay(code);
        return deepest;
    }

    /** Up to the brace that closes what is open at a place. */
    private static String blockAt(String code, int from) {
        int depth = 1;
        int at = from;
        while (at < code.length() && depth > 0) {
            depth += code.charAt(at) == '{' ? 1 : code.charAt(at) == '}' ? -1 : 0;
            at++;
        }
        return code.substring(from, at);
    }

    private void findMethods(String code) {
        Matcher head = HEAD.matcher(code);
        while (head.find()) {
            String name = head.group(2);
            if (!NO_CALLS.contains(name)) {
                due(!bodies.containsKey(name), name + " stands twice, so that its calls can't be told");
                bodies.put(name, blockAt(code, head.end()));
                if ("public ".equals(head.group(1))) {
                    face.add(name);
                }
            }
        }
    }

    /** How many calls stand open at once, its own, and the library's below it, counted. */
    private int depthOf(String method) {
        if (open.contains(method)) {
            due(false, "calls itself: " + open + " " + method);
            return 0;
        }
        open.add(method);
        int deepest = 0;
        Matcher call = CALL.matcher(bodies.get(method));
        while (call.find()) {
            String name = call.group(1);
            if (bodies.containsKey(name)) {
                deepest = Math.max(deepest, depthOf(name));
            } else if (!NO_CALLS.contains(name)) {
                deepest = Math.max(deepest, 1);
            }
        }
        open.remove(open.size() - 1);
        return deepest + 1;
    }

    private void onlyTheFaceThrows() {
        for (Map.Entry<String, String> method : bodies.entrySet()) {
            Matcher thrown = THROWN.matcher(method.getValue());
            while (thrown.find()) {
                due(face.contains(method.getKey()) && !method.getKey().equals("Warren"),
                        method.getKey() + " throws an " + thrown.group(1));
            }
        }
    }

    private void loopsEnd(String code) {
        Matcher loop = LOOP.matcher(code);
        int loops = 0;
        while (loop.find()) {
            loops++;
            String block = blockAt(code, loop.end());
            String head = loop.group(2);
            Matcher bound = Pattern.compile("(\\w+) < \\w+").matcher(head);
            boolean isFor = loop.group(1).equals("for");
            due(isFor ? COUNTED.matcher(head).matches() : bound.find() && block.contains(bound.group(1) + "++;"),
                    "no end can be seen: " + loop.group());
            due(!block.contains("new "), "makes something in a loop: " + loop.group());
        }
        due(loops > 20 && !Pattern.compile("\\bdo\\b").matcher(code).find(), loops + " loops were found");
    }

    private void arraysOfTheClassStay(String code) {
        Matcher array = Pattern.compile("static final \\w+\\[\\] (\\w+) = \\{").matcher(code);
        while (array.find()) {
            String name = array.group(1);
            Pattern put = Pattern.compile("\\b" + name + "\\[[^\\]]*\\] *(?:[-+*/|&^%]|<<|>>)?(?:=[^=]|\\+\\+|--)");
            due(!put.matcher(code).find(), name + " is changed");
        }
    }
}
