/** Counts answers that are not the ones that are due, and tells each of them. */
final class Check {
    private final String name;
    private int asked = 0;
    private int wrong = 0;

    Check(String name) {
        this.name = name;
    }

    void due(String call, long got, long want) {
        told(call, got == want, Long.toString(got), Long.toString(want));
    }

    void due(String call, boolean got, boolean want) {
        told(call, got == want, Boolean.toString(got), Boolean.toString(want));
    }

    void dueMean(String call, double got, double want) {
        told(call, got == want, Double.toString(got), Double.toString(want));
    }

    /** The call throws just that, and leaves the object as it was. */
    void refused(String call, Warren warren, Class<?> due, Runnable run) {
        long before = fingerprint(warren);
        String got = "nothing";
        try {
            run.run();
        } catch (RuntimeException e) {
            got = thrownBy(e);
        }
        told(call + " throws", got.equals(due.getName()), got, due.getName());
        told(call + " changes nothing", fingerprint(warren) == before, "another object", "the same");
    }

    void end() {
        System.out.println(name + ": " + asked + " answers, " + wrong + " wrong");
        if (wrong != 0) {
            System.exit(1);
        }
    }

    /** The class has to throw for itself, not leave that to a list or an array. */
    private static String thrownBy(RuntimeException e) {
        StackTraceElement[] frames = e.getStackTrace();
        boolean isOwn = frames.length > 0 && frames[0].getClassName().equals("Warren");
        return e.getClass().getName() + (isOwn ? "" : " from elsewhere");
    }

    /** All that can be asked without knowing what the saved games hold. */
    static long fingerprint(Warren warren) {
        long d = warren.digest();
        for (int side = 0; side < 2; side++) {
            for (int cell = 0; cell < 160; cell++) {
                d = d * 31 + (warren.knows(side, cell) ? 1 : 0);
                d = d * 31 + warren.on(cell);
            }
        }
        return d;
    }

    private void told(String call, boolean isRight, String got, String want) {
        asked++;
        if (!isRight) {
            wrong++;
            System.out.println(name + ": " + call + " answered " + got + ", due is " + want);
        }
    }
}
