import java.lang.reflect.Constructor;
import java.lang.reflect.Field;
import java.lang.reflect.Member;
import java.lang.reflect.Method;
import java.lang.reflect.Modifier;
import java.util.ArrayList;
import java.util.HashSet;
import java.util.List;
import java.util.Set;
import java.util.TreeSet;

/** The class has the document's face, and no more of one (the rules 1, 2, 5 and 11 of LANGUAGE.md). */
public final class FaceTest {
    private static final String[] FACE = {
        "int dig(int, int, int, int) throws IllegalArgumentException",
        "int set(int, int) throws IndexOutOfBoundsException, IllegalArgumentException, IllegalStateException",
        "int cell(int) throws IndexOutOfBoundsException",
        "int on(int) throws IndexOutOfBoundsException",
        "boolean sees(int, int) throws IndexOutOfBoundsException",
        "boolean knows(int, int) throws IllegalArgumentException, IndexOutOfBoundsException",
        "int come(int, int, int) throws IndexOutOfBoundsException, IllegalArgumentException, IllegalStateException",
        "int become(int, int, int, int) throws IndexOutOfBoundsException, IllegalArgumentException",
        "int lay(int, int, int, int) throws IndexOutOfBoundsException, IllegalArgumentException,"
            + " IllegalStateException",
        "int of(int, int) throws IndexOutOfBoundsException, IllegalArgumentException",
        "int effect(int, int, boolean) throws IndexOutOfBoundsException, IllegalArgumentException",
        "int many(int) throws IllegalArgumentException",
        "int act(int) throws IllegalArgumentException, IllegalStateException",
        "int follow(int) throws IllegalArgumentException",
        "int target(int) throws IndexOutOfBoundsException",
        "int way(int, int) throws IndexOutOfBoundsException",
        "int worth(int, int) throws IndexOutOfBoundsException, IllegalArgumentException",
        "int plan(int) throws IndexOutOfBoundsException",
        "int save() throws IllegalStateException",
        "int load(int) throws IndexOutOfBoundsException",
        "int hit(int, int) throws IndexOutOfBoundsException",
        "int ahead(int) throws IllegalArgumentException",
        "int danger(int, int) throws IllegalArgumentException, IndexOutOfBoundsException",
        "double meanLife()",
        "long digest()",
    };

    private static int wrong = 0;

    public static void main(String[] args) {
        theFaceIsTheDocuments();
        nothingElseIsSeen();
        theClassesInside();
        System.out.println("FaceTest: " + FACE.length + " methods, " + wrong + " wrong");
        if (wrong != 0) {
            System.exit(1);
        }
    }

    private static void due(boolean isRight, String what) {
        if (!isRight) {
            wrong++;
            System.out.println("FaceTest: " + what);
        }
    }

    private static String names(Class<?>[] classes) {
        List<String> names = new ArrayList<>();
        for (Class<?> one : classes) {
            names.add(one.getSimpleName());
        }
        return String.join(", ", names);
    }

    private static String told(Method method) {
        String thrown = names(method.getExceptionTypes());
        return method.getReturnType().getSimpleName() + " " + method.getName() + "("
                + names(method.getParameterTypes()) + ")" + (thrown.isEmpty() ? "" : " throws " + thrown);
    }

    private static void theFaceIsTheDocuments() {
        Set<String> got = new TreeSet<>();
        for (Method method : Warren.class.getDeclaredMethods()) {
            if (Modifier.isPublic(method.getModifiers())) {
                got.add(told(method));
            }
        }
        Set<String> want = new TreeSet<>(List.of(FACE));
        due(got.equals(want), "the public methods are " + got + ", due are " + want);
        due(Modifier.isFinal(Warren.class.getModifiers()), "the class is not final");
        due(Modifier.isPublic(Warren.class.getModifiers()), "the class is not public");
        due(Warren.class.getSuperclass() == Object.class, "the class extends another one");
        due(Warren.class.getInterfaces().length == 0, "the class implements an interface");
        Constructor<?>[] made = Warren.class.getDeclaredConstructors();
        due(made.length == 1 && Modifier.isPublic(made[0].getModifiers()) && made[0].getParameterCount() == 0,
                "the constructor is not the document's");
    }

    private static void mustBePrivate(Member member) {
        due(member.isSynthetic() || Modifier.isPrivate(member.getModifiers()), member + " is not private");
    }

    private static void nothingElseIsSeen() {
        Set<String> names = new HashSet<>();
        for (Method method : Warren.class.getDeclaredMethods()) {
            if (Modifier.isPublic(method.getModifiers())) {
                names.add(method.getName());
            }
        }
        for (Method method : Warren.class.getDeclaredMethods()) {
            if (!Modifier.isPublic(method.getModifiers())) {
                mustBePrivate(method);
                due(!names.contains(method.getName()), method + " bears the name of a public one");
            }
        }
        for (Field field : Warren.class.getDeclaredFields()) {
            mustBePrivate(field);
        }
    }

    private static void theClassesInside() {
        List<Class<?>> all = new ArrayList<>(List.of(Warren.class.getDeclaredClasses()));
        due(all.size() < 12, "more than 12 classes");
        all.add(Warren.class);
        for (Class<?> one : all) {
            int fields = 0;
            for (Field field : one.getDeclaredFields()) {
                boolean isStatic = Modifier.isStatic(field.getModifiers());
                due(!isStatic || Modifier.isFinal(field.getModifiers()), field + " is static, and not final");
                fields += isStatic ? 0 : 1;
            }
            due(fields <= 20, one + " has more than 20 fields");
            for (Method method : one.getDeclaredMethods()) {
                due(method.getParameterCount() <= 7, method + " takes more than 7");
            }
            if (one != Warren.class) {
                due(Modifier.isStatic(one.getModifiers()), one + " is not static");
                due(!Modifier.isPublic(one.getModifiers()) && !Modifier.isProtected(one.getModifiers()),
                        one + " is seen from outside");
            }
        }
    }
}
