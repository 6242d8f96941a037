import java.util.function.Supplier;

/** Counts and prints the answers that are not as due; shared by the project's tests. */
final class Check {
    interface Call {
        Object on(StorageCosts x);
    }

    static final Class<? extends RuntimeException> ARGUMENT = IllegalArgumentException.class;
    static final Class<? extends RuntimeException> STATE = IllegalStateException.class;
    static final Class<? extends RuntimeException> INDEX = IndexOutOfBoundsException.class;

    private static final int OWNERS = 4;
    private static final int PLACES = 64;

    private int asked = 0;
    private int wrong = 0;

    void due(String what, Object want, Object got) {
        asked++;
        if (!want.equals(got)) {
            wrong++;
            System.out.println(what + " answered " + got + ", due is " + want);
        }
    }

    /**
     * That the call throws just this class, not a kind of it, and that the object
     * shows the same as one that was made likewise and spared the call.
     */
    void refused(String what, Supplier<StorageCosts> made, Class<? extends RuntimeException> want, Call call) {
        due(what, "throws " + want.getName(), outcome(() -> call.on(made.get())));
        due(what + ": state afterwards", shown(made), shown(() -> after(made, call)));
    }

    /** That the call throws just this class, on an object that goes on being used. */
    void thrown(String what, Class<? extends RuntimeException> want, Supplier<Object> call) {
        due(what, "throws " + want.getName(), outcome(call));
    }

    private static StorageCosts after(Supplier<StorageCosts> made, Call call) {
        StorageCosts x = made.get();
        outcome(() -> call.on(x));
        return x;
    }

    static Object outcome(Supplier<Object> call) {
        try {
            return call.get();
        } catch (RuntimeException e) {
            return "throws " + e.getClass().getName();
        }
    }

    /**
     * All that an object shows. Each owner is looked at on an object of its own, since
     * all of them together take more calls than an object is promised to be good for.
     */
    static String shown(Supplier<StorageCosts> made) {
        StringBuilder text = new StringBuilder();
        for (int o = 0; o < OWNERS; o++) {
            StorageCosts x = made.get();
            for (int what = 0; what <= 3; what++) {
                text.append(x.count(what)).append(' ');
            }
            for (int p = 0; p < PLACES; p++) {
                text.append(x.held(o, p, false)).append(',').append(x.held(o, p, true));
                text.append(x.touched(o, p) ? "t " : " ");
            }
        }
        return text.toString();
    }

    void end() {
        System.out.println(wrong == 0
                ? "all " + asked + " answers are as due"
                : wrong + " of " + asked + " answers are not as due");
        if (wrong != 0) {
            System.exit(1);
        }
    }
}
