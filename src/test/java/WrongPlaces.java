/** The wrong owners and places that every call with a place must refuse. */
final class WrongPlaces {
    interface PlaceCall {
        Object answer(int o, int p);
    }

    private static final int[] OWNERS = {-1, 4, Integer.MIN_VALUE, Integer.MAX_VALUE, 0x10000, -4};
    private static final int[] PLACES = {-1, 64, Integer.MIN_VALUE, Integer.MAX_VALUE, 128, -64};

    static void refused(Check check, String name, StorageCosts x, PlaceCall call) {
        for (int o : OWNERS) {
            ask(check, name, x, call, o, 0);
            ask(check, name, x, call, o, 63);
        }
        for (int p : PLACES) {
            ask(check, name, x, call, 0, p);
            ask(check, name, x, call, 3, p);
        }
        ask(check, name, x, call, -1, 64);
        ask(check, name, x, call, 4, -1);
    }

    private static void ask(Check check, String name, StorageCosts x, PlaceCall call, int o, int p) {
        check.refused(name + " of " + o + ", " + p, x, Check.ARGUMENT, () -> call.answer(o, p));
    }
}
