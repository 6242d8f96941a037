/** Counts and prints the answers that are not as due; shared by the project's tests. */
final class Check {
    interface Call {
        Object answer();
    }

    static final Class<? extends RuntimeException> ARGUMENT = IllegalArgumentException.class;
    static final Class<? extends RuntimeException> STATE = IllegalStateException.class;
    static final Class<? extends RuntimeException> INDEX = IndexOutOfBoundsException.class;

    private static final int OWNERS = 4;
    private static final int PLACES = 64;

    private int asked = 0;
    private int wrong = 0;

    void due(String what, Object want, Object got) {
        asked++;
        if (!want.equals(got)) {
            wrong++;
            System.out.println(what + " answered " + got + ", due is " + want);
        }
    }

    /** The class is compared exactly: a kind of the exception that is due is not the one that is due. */
    void thrown(String what, Class<? extends RuntimeException> want, Call call) {
        due(what, "throws " + want.getName(), outcome(call));
    }

    /** As thrown, and that the object shows the same in every way before and after. */
    void refused(String what, StorageCosts x, Class<? extends RuntimeException> want, Call call) {
        String before = shown(x);
        thrown(what, want, call);
        due(what + ": state afterwards", before, shown(x));
    }

    static Object outcome(Call call) {
        try {
            return call.answer();
        } catch (RuntimeException e) {
            return "throws " + e.getClass().getName();
        }
    }

    /** All that an object shows without being changed. */
    static String shown(StorageCosts x) {
        StringBuilder text = new StringBuilder();
        for (int what = 0; what <= 3; what++) {
            text.append(x.count(what)).append(' ');
        }
        for (int o = 0; o < OWNERS; o++) {
            for (int p = 0; p < PLACES; p++) {
                text.append(x.held(o, p, false)).append(',').append(x.held(o, p, true));
                text.append(x.touched(o, p) ? "t " : " ");
            }
        }
        return text.toString();
    }

    void end() {
        System.out.println(wrong == 0
                ? "all " + asked + " answers are as due"
                : wrong + " of " + asked + " answers are not as due");
        if (wrong != 0) {
            System.exit(1);
        }
    }
}
