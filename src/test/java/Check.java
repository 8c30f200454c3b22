import java.util.function.Consumer;
import java.util.function.Supplier;

/** Counts answers that are not the ones that are due, and tells each of them. */
final class Check {
    private final String name;
    private String current = "";
    private int asked = 0;
    private int wrong = 0;

    Check(String name) {
        this.name = name;
    }

    /** What is asked from now on belongs to this case. */
    void begin(String caseName) {
        current = caseName;
    }

    int asked() {
        return asked;
    }

    int wrong() {
        return wrong;
    }

    void due(String call, long got, long want) {
        told(call, got == want, Long.toString(got), Long.toString(want));
    }

    void due(String call, boolean got, boolean want) {
        told(call, got == want, Boolean.toString(got), Boolean.toString(want));
    }

    void dueMean(String call, double got, double want) {
        told(call, Double.compare(got, want) == 0, Double.toString(got), Double.toString(want));
    }

    /** The call throws just that, and nothing that the checksum tells is another one then. */
    void refused(String call, Warren warren, Class<?> due, Runnable run) {
        long before = warren.digest();
        String got = thrownBy(run);
        told(call + " throws", got.equals(due.getName()), got, due.getName());
        told(call + " changes nothing", warren.digest() == before, "another object", "the same");
    }

    /** The call throws just that, and leaves a new object in the given state as one that was never called. */
    void refused(String call, Supplier<Warren> given, Class<?> due, Consumer<Warren> run) {
        Warren warren = given.get();
        String got = thrownBy(() -> run.accept(warren));
        told(in(given) + call + " throws", got.equals(due.getName()), got, due.getName());
        leaves(call, given, w -> thrownBy(() -> run.accept(w)));
    }

    /**
     * The calls leave a new object in the given state as one that was never called, in all that can be asked. What each
     * side knows is asked of further objects, since none may be called more than 512 times.
     */
    void leaves(String calls, Supplier<Warren> given, Consumer<Warren> run) {
        String what = in(given) + calls + " changes nothing";
        same(what, called(given, run), given.get());
        for (int side = 0; side < 2; side++) {
            sameKnown(what, side, called(given, run), given.get());
        }
    }

    private static Warren called(Supplier<Warren> given, Consumer<Warren> run) {
        Warren warren = given.get();
        run.accept(warren);
        return warren;
    }

    /** The same checksum, now and of each saved game; the last one stays loaded. */
    void same(String what, Warren got, Warren want) {
        told(what, got.digest() == want.digest(), "another digest()", "the same");
        for (int game = 0; game < Math.min(got.many(8), want.many(8)); game++) {
            got.load(game);
            want.load(game);
            told(what + ", nor the game " + game, got.digest() == want.digest(), "another digest()", "the same");
        }
    }

    void sameKnown(String what, int side, Warren got, Warren want) {
        int cell = 0;
        while (cell < 160 && got.knows(side, cell) == want.knows(side, cell)) {
            cell++;
        }
        told(what + ", nor what is known", cell == 160, "another knows(" + side + ", " + cell + ")", "the same");
    }

    void fails(String what) {
        asked++;
        wrong++;
        System.out.println(name + " " + current + ": " + what);
    }

    void end() {
        System.out.println(name + ": " + asked + " answers, " + wrong + " wrong");
        if (wrong != 0) {
            System.exit(1);
        }
    }

    private static String in(Supplier<Warren> given) {
        return given instanceof Given ? given + ": " : "";
    }

    /** The class has to throw for itself, not leave that to a list or an array. */
    private static String thrownBy(Runnable run) {
        try {
            run.run();
        } catch (RuntimeException e) {
            StackTraceElement[] frames = e.getStackTrace();
            boolean isOwn = frames.length > 0 && frames[0].getClassName().equals("Warren");
            return e.getClass().getName() + (isOwn ? "" : " from elsewhere");
        }
        return "nothing";
    }

    private void told(String call, boolean isRight, String got, String want) {
        asked++;
        if (!isRight) {
            wrong++;
            System.out.println(name + " " + current + ": " + call + " answered " + got + ", due is " + want);
        }
    }
}
