import java.util.LinkedHashMap;
import java.util.Map;
import java.util.function.Consumer;
import java.util.function.Supplier;

/**
 * The end of "Terms": a call that throws changes nothing. Not what can be asked for at once,
 * and not what shows only later: an object that was refused a call is led on together with
 * one that was spared it.
 */
public final class RefusedTest {
    private static final Map<String, Supplier<StorageCosts>> STATES = new LinkedHashMap<>();
    private static final Map<String, Consumer<StorageCosts>> WAYS_ON = new LinkedHashMap<>();

    static {
        STATES.put("new", StorageCosts::new);
        STATES.put("none open", () -> withOpen(0));
        STATES.put("one open", () -> withOpen(1));
        STATES.put("two open", () -> withOpen(2));
        STATES.put("thirty open", () -> withOpen(30));
        WAYS_ON.put("at once", x -> { });
        WAYS_ON.put("after close(true)", x -> closeIfOpen(x, true));
        WAYS_ON.put("after close(false)", x -> closeIfOpen(x, false));
        WAYS_ON.put("after both closed(false)", x -> {
            closeIfOpen(x, false);
            closeIfOpen(x, false);
        });
        WAYS_ON.put("after begin", StorageCosts::begin);
        WAYS_ON.put("after a message taken back", x -> {
            closeIfOpen(x, true);
            x.open();
            x.store(0, 0, 9L, 30000);
            x.store(2, 63, 0L, 30000);
            x.load(3, 63);
            x.close(false);
        });
        WAYS_ON.put("after stores", x -> {
            x.store(0, 0, 5L, 30000);
            x.store(2, 63, 5L, 30000);
        });
    }

    public static void main(String[] args) {
        Check check = new Check();
        everywhere(check, "load of 4, 0", Check.ARGUMENT, x -> x.load(4, 0));
        everywhere(check, "load of 0, 64", Check.ARGUMENT, x -> x.load(0, 64));
        everywhere(check, "load of -1, 0", Check.ARGUMENT, x -> x.load(-1, 0));
        everywhere(check, "load of 0, -1", Check.ARGUMENT, x -> x.load(0, -1));
        everywhere(check, "store of 4, 0", Check.ARGUMENT, x -> x.store(4, 0, 1L, 30000));
        everywhere(check, "store of 0, 64", Check.ARGUMENT, x -> x.store(0, 64, 1L, 30000));
        everywhere(check, "store of -1, 63 without gas", Check.ARGUMENT, x -> x.store(-1, 63, 1L, 0));
        everywhere(check, "store of 3, -1 without gas", Check.ARGUMENT, x -> x.store(3, -1, 1L, 0));
        everywhere(check, "store with gas 2300", Check.STATE, x -> x.store(0, 0, 5L, 2300));
        everywhere(check, "store of 0 with gas 2300", Check.STATE, x -> x.store(2, 63, 0L, 2300));
        everywhere(check, "store in an empty place with gas 19999", Check.STATE, x -> x.store(3, 63, 7L, 19999));
        everywhere(check, "held of 4, 0", Check.ARGUMENT, x -> x.held(4, 0, false));
        everywhere(check, "held of 0, 64, first", Check.ARGUMENT, x -> x.held(0, 64, true));
        everywhere(check, "touched of -1, 0", Check.ARGUMENT, x -> x.touched(-1, 0));
        everywhere(check, "touched of 0, 64", Check.ARGUMENT, x -> x.touched(0, 64));
        everywhere(check, "count(4)", Check.ARGUMENT, x -> x.count(4));
        everywhere(check, "count(-1)", Check.ARGUMENT, x -> x.count(-1));
        in(check, "thirty open", "open", Check.INDEX, StorageCosts::open);
        for (String state : new String[] {"new", "none open"}) {
            in(check, state, "close(true)", Check.STATE, x -> x.close(true));
            in(check, state, "close(false)", Check.STATE, x -> x.close(false));
        }
        check.end();
    }

    private static void everywhere(Check check, String what, Class<? extends RuntimeException> want,
            Check.Call call) {
        for (String state : STATES.keySet()) {
            in(check, state, what, want, call);
        }
    }

    private static void in(Check check, String state, String what, Class<? extends RuntimeException> want,
            Check.Call call) {
        Supplier<StorageCosts> made = STATES.get(state);
        check.thrown(what + " (" + state + ")", want, () -> call.on(made.get()));
        for (Map.Entry<String, Consumer<StorageCosts>> way : WAYS_ON.entrySet()) {
            check.due(what + " (" + state + "), shown " + way.getKey(),
                    Check.shown(() -> led(made.get(), way.getValue())),
                    Check.shown(() -> led(refused(made.get(), call), way.getValue())));
        }
    }

    private static StorageCosts refused(StorageCosts x, Check.Call call) {
        Check.outcome(() -> call.on(x));
        return x;
    }

    private static StorageCosts led(StorageCosts x, Consumer<StorageCosts> way) {
        way.accept(x);
        return x;
    }

    private static void closeIfOpen(StorageCosts x, boolean good) {
        if (x.count(2) > 0) {
            x.close(good);
        }
    }

    /** A run with filled, emptied and touched places, and as many messages, each with work of its own. */
    private static StorageCosts withOpen(int messages) {
        StorageCosts x = new StorageCosts();
        x.store(0, 0, 5L, 30000);
        x.store(2, 63, 5L, 30000);
        x.begin();
        x.store(0, 0, 0L, 30000);
        x.load(1, 1);
        for (int i = 1; i <= messages; i++) {
            x.open();
            x.store(2, 63, 5L + i, 30000);
            x.load(1, 1 + i);
        }
        return x;
    }
}
