import java.io.IOException;
import java.lang.reflect.InvocationTargetException;
import java.lang.reflect.Method;
import java.nio.charset.StandardCharsets;
import java.nio.file.Files;
import java.nio.file.Path;
import java.util.HashMap;
import java.util.Map;
import java.util.regex.Matcher;
import java.util.regex.Pattern;

/** Plays the calls that README.md shows, one behind the other on one object: each answers what its comment says. */
public final class ReadmeTest {
    private static final Pattern BLOCK = Pattern.compile("```java\n(.*?)```", Pattern.DOTALL);
    private static final Pattern LINE = Pattern.compile(
            "(?:int (\\w+) = )?warren\\.(\\w+)\\(([^)]*)\\); +// (?:(-?\\d+)|throws (\\w+)): \\S.*");
    private static final String FIRST = "Warren warren = new Warren();";
    private static final int LEAST_LINES = 20;

    private final Warren warren = new Warren();
    private final Map<String, Integer> names = new HashMap<>();
    private int played = 0;
    private int wrong = 0;

    public static void main(String[] args) throws IOException {
        ReadmeTest test = new ReadmeTest();
        test.play(Files.readString(Path.of("README.md"), StandardCharsets.UTF_8));
        System.out.println("ReadmeTest: " + test.played + " calls, " + test.wrong + " wrong");
        if (test.wrong != 0) {
            System.exit(1);
        }
    }

    private void due(boolean isRight, String what) {
        if (!isRight) {
            wrong++;
            System.out.println("ReadmeTest: " + what);
        }
    }

    private void play(String readme) {
        Matcher block = BLOCK.matcher(readme);
        boolean isFirst = true;
        while (block.find()) {
            for (String line : block.group(1).split("\n")) {
                if (isFirst) {
                    due(line.equals(FIRST), "the game begins with " + line);
                } else {
                    playLine(line);
                }
                isFirst = false;
            }
        }
        due(played >= LEAST_LINES, "only " + played + " calls");
    }

    private void playLine(String line) {
        Matcher parts = LINE.matcher(line);
        if (!parts.matches()) {
            due(false, "no call with its answer: " + line);
            return;
        }
        played++;
        long before = warren.digest();
        String got = answer(parts.group(2), parts.group(3).isEmpty() ? new String[0] : parts.group(3).split(", "));
        String want = parts.group(4) != null ? parts.group(4) : "java.lang." + parts.group(5);
        due(got.equals(want), line + " answered " + got);
        due(parts.group(5) == null || warren.digest() == before, line + " changed something");
        if (parts.group(1) != null) {
            names.put(parts.group(1), Integer.valueOf(want));
        }
    }

    private String answer(String name, String[] given) {
        Object[] values = new Object[given.length];
        for (int i = 0; i < given.length; i++) {
            values[i] = names.containsKey(given[i]) ? names.get(given[i]) : Integer.valueOf(given[i]);
        }
        for (Method method : Warren.class.getMethods()) {
            if (method.getName().equals(name) && method.getParameterCount() == values.length) {
                try {
                    return String.valueOf(method.invoke(warren, values));
                } catch (InvocationTargetException e) {
                    return e.getCause().getClass().getName();
                } catch (IllegalAccessException e) {
                    return "what can't be called";
                }
            }
        }
        return "what there is not";
    }
}
