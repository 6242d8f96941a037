import java.util.function.Supplier;

/** The wrong owners and places that every call with a place must refuse. */
final class WrongPlaces {
    interface PlaceCall {
        Object on(StorageCosts x, int o, int p);
    }

    /** Next to the range, the farthest there are, and those that a mask or an overflow would bring back into it. */
    private static final int[] OWNERS = {-1, 4, Integer.MIN_VALUE, Integer.MAX_VALUE, 0x10000, -4, 1 << 26};
    private static final int[] PLACES = {-1, 64, Integer.MIN_VALUE, Integer.MAX_VALUE, 128, -64, 1 << 16};

    /** Pairs whose number 64 * o + p is that of a place that there is. */
    private static final int[][] ALIASES = {{-1, 64}, {-1, 127}, {4, -1}, {4, -64}, {1, -64}, {0, 255}, {2, 64}};

    private final Check check;
    private final Supplier<StorageCosts> made;

    WrongPlaces(Check check, Supplier<StorageCosts> made) {
        this.check = check;
        this.made = made;
    }

    void refused(String name, PlaceCall call) {
        for (int o : OWNERS) {
            ask(name, call, o, 0);
            ask(name, call, o, 63);
        }
        for (int p : PLACES) {
            ask(name, call, 0, p);
            ask(name, call, 3, p);
        }
        for (int[] alias : ALIASES) {
            ask(name, call, alias[0], alias[1]);
        }
    }

    private void ask(String name, PlaceCall call, int o, int p) {
        check.refused(name + " of " + o + ", " + p, made, Check.ARGUMENT, x -> call.on(x, o, p));
    }
}
