import java.lang.reflect.InvocationTargetException;
import java.lang.reflect.Method;
import java.util.ArrayList;
import java.util.List;
import java.util.Map;
import java.util.TreeMap;
import java.util.regex.Matcher;
import java.util.regex.Pattern;

/**
 * Runs each method of a class of tests whose name begins with "promise" and a number as a case of that promise. A case
 * that asks nothing, and a promise without a case, is a fault as well: so none can be left out unseen.
 */
final class Cases {
    private static final Pattern NAME = Pattern.compile("promise(\\d+)\\p{Upper}\\w*");

    private Cases() {
    }

    static void run(Class<?> tests, Check check, int first, int last) {
        Map<Integer, List<Method>> cases = casesOf(tests);
        for (int promise = first; promise <= last; promise++) {
            List<Method> own = cases.getOrDefault(promise, List.of());
            if (own.isEmpty()) {
                check.fails("promise " + promise + " without a case");
            }
            own.forEach(one -> run(one, check));
        }
        cases.keySet().removeIf(promise -> promise >= first && promise <= last);
        if (!cases.isEmpty()) {
            check.fails("cases of other promises " + cases.keySet());
        }
        check.end();
    }

    private static Map<Integer, List<Method>> casesOf(Class<?> tests) {
        Map<Integer, List<Method>> cases = new TreeMap<>();
        for (Method method : tests.getDeclaredMethods()) {
            Matcher name = NAME.matcher(method.getName());
            if (name.matches()) {
                cases.computeIfAbsent(Integer.valueOf(name.group(1)), promise -> new ArrayList<>()).add(method);
            }
        }
        return cases;
    }

    private static void run(Method one, Check check) {
        int before = check.asked();
        check.begin(one.getName());
        try {
            one.invoke(null);
        } catch (InvocationTargetException e) {
            check.fails("threw " + e.getCause() + " at " + e.getCause().getStackTrace()[0]);
        } catch (IllegalAccessException e) {
            check.fails("can't be called");
        }
        if (check.asked() == before) {
            check.fails("asks nothing");
        }
    }
}
