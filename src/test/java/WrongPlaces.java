import java.util.function.Supplier;

/** The wrong owners and places that every call with a place must refuse. */
final class WrongPlaces {
    interface PlaceCall {
        Object on(StorageCosts x, int o, int p);
    }

    private static final int[] OWNERS = {-1, 4, Integer.MIN_VALUE, Integer.MAX_VALUE, 0x10000, -4};
    private static final int[] PLACES = {-1, 64, Integer.MIN_VALUE, Integer.MAX_VALUE, 128, -64};

    private final Check check;
    private final Supplier<StorageCosts> made;

    WrongPlaces(Check check, Supplier<StorageCosts> made) {
        this.check = check;
        this.made = made;
    }

    void refused(String name, PlaceCall call) {
        for (int o : OWNERS) {
            ask(name, call, o, 0);
            ask(name, call, o, 63);
        }
        for (int p : PLACES) {
            ask(name, call, 0, p);
            ask(name, call, 3, p);
        }
        ask(name, call, -1, 64);
        ask(name, call, 4, -1);
    }

    private void ask(String name, PlaceCall call, int o, int p) {
        check.refused(name + " of " + o + ", " + p, made, Check.ARGUMENT, x -> call.on(x, o, p));
    }
}
