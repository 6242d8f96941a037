import java.util.Arrays;
import java.util.function.Supplier;

/** Promise 6: what a store costs, what it gives back, and when it is refused. */
public final class StoreTest {
    private static final int PLENTY = 1000000;

    public static void main(String[] args) {
        Check check = new Check();
        sameValue(check);
        fromFirst(check);
        againWithFirstZero(check);
        againWithFirstNotZero(check);
        allBitsOfAValueCount(check);
        refundOverManyStores(check);
        gasEdges(check);
        refusedStoreTouchesNothing(check);
        refusedStoreGivesNothingBack(check);
        refusedStoreInAMessage(check);
        whatWasTouchedCountsForGas(check);
        messagesDoNotMoveFirst(check);
        placesNextToItStay(check);
        wrongPlaces(check);
        wrongPlaceComesBeforeGas(check);
        check.end();
    }

    private static void sameValue(Check check) {
        ask(check, 0, new long[] {}, 0, 100, 0);
        ask(check, 5, new long[] {}, 5, 100, 0);
        ask(check, 5, new long[] {0}, 0, 100, 0);
        ask(check, 5, new long[] {7}, 7, 100, 0);
        ask(check, 0, new long[] {7}, 7, 100, 0);
        ask(check, 5, new long[] {7, 5}, 5, 100, 0);
    }

    private static void fromFirst(Check check) {
        ask(check, 0, new long[] {}, 5, 20000, 0);
        ask(check, 0, new long[] {}, -1, 20000, 0);
        ask(check, 5, new long[] {}, 6, 2900, 0);
        ask(check, 5, new long[] {}, 0, 2900, 15000);
        ask(check, 0, new long[] {5, 0}, 6, 20000, 0);
        ask(check, 5, new long[] {6, 5}, 7, 2900, 0);
        ask(check, 5, new long[] {0, 5}, 0, 2900, 15000);
    }

    private static void againWithFirstZero(Check check) {
        ask(check, 0, new long[] {5}, 6, 100, 0);
        ask(check, 0, new long[] {5}, 0, 100, 19900);
        ask(check, 0, new long[] {5, 6}, 0, 100, 19900);
    }

    private static void againWithFirstNotZero(Check check) {
        ask(check, 5, new long[] {6}, 7, 100, 0);
        ask(check, 5, new long[] {6}, 0, 100, 15000);
        ask(check, 5, new long[] {6}, 5, 100, 2800);
        ask(check, 5, new long[] {0}, 6, 100, -15000);
        ask(check, 5, new long[] {0}, 5, 100, -12200);
        ask(check, 5, new long[] {0, 6}, 0, 100, 15000);
    }

    private static void allBitsOfAValueCount(Check check) {
        long high = 1L << 32;
        ask(check, 0, new long[] {}, high, 20000, 0);
        ask(check, high, new long[] {}, 0, 2900, 15000);
        ask(check, high, new long[] {5}, high, 100, 2800);
        ask(check, 5, new long[] {}, high + 5, 2900, 0);
        ask(check, 5, new long[] {6}, high + 5, 100, 0);
        ask(check, 5, new long[] {high}, 5, 100, 2800);
        ask(check, 5, new long[] {high + 5}, 6, 100, 0);
        ask(check, 5, new long[] {high + 5}, 5, 100, 2800);
        ask(check, 5, new long[] {high + 5}, 0, 100, 15000);
        ask(check, 5, new long[] {0}, high, 100, -15000);
        ask(check, 5, new long[] {high}, 0, 100, 15000);
        ask(check, 0, new long[] {high}, 6, 100, 0);
        ask(check, 0, new long[] {high}, 0, 100, 19900);
        ask(check, Long.MIN_VALUE, new long[] {}, Long.MAX_VALUE, 2900, 0);
        ask(check, Long.MIN_VALUE, new long[] {Long.MAX_VALUE}, 0, 100, 15000);
    }

    /** One store on a touched place, and as the first touch where nothing was stored in the run before. */
    private static void ask(Check check, long first, long[] before, long v, int cost, int refund) {
        String what = "first " + first + ", then " + Arrays.toString(before) + ", store " + v;
        StorageCosts x = run(first, before);
        x.load(3, 63);
        int refundBefore = x.count(0);
        check.due(what, cost, x.store(3, 63, v, PLENTY));
        check.due(what + ": refund", refund, x.count(0) - refundBefore);
        check.due(what + ": held", v, x.held(3, 63, false));
        check.due(what + ": first", first, x.held(3, 63, true));
        check.due(what + ": touched", 1, x.count(1));
        if (before.length == 0) {
            askUntouched(check, what, run(first, before), v, cost, refund);
        }
    }

    private static void askUntouched(Check check, String what, StorageCosts x, long v, int cost, int refund) {
        check.due(what + " untouched", cost + 2100, x.store(3, 63, v, PLENTY));
        check.due(what + " untouched: refund", refund, x.count(0));
        check.due(what + " untouched: held", v, x.held(3, 63, false));
        check.due(what + " untouched: touched", true, x.touched(3, 63));
        check.due(what + " untouched: how many", 1, x.count(1));
    }

    private static StorageCosts run(long first, long[] before) {
        StorageCosts x = new StorageCosts();
        x.store(3, 63, first, PLENTY);
        x.begin();
        for (long v : before) {
            x.store(3, 63, v, PLENTY);
        }
        return x;
    }

    private static void refundOverManyStores(Check check) {
        StorageCosts x = run(5L, new long[] {0L});
        check.due("refund for emptying", 15000, x.count(0));
        x.store(3, 63, 5L, PLENTY);
        check.due("refund for first again", 2800, x.count(0));
        x.store(3, 63, 0L, PLENTY);
        x.store(3, 63, 6L, PLENTY);
        x.store(3, 63, 5L, PLENTY);
        check.due("refund after the long way round", 5600, x.count(0));
    }

    private static void gasEdges(Check check) {
        gasEdge(check, 0L, new long[] {}, 1L, 22100);
        gasEdge(check, 5L, new long[] {}, 6L, 5000);
        gasEdge(check, 5L, new long[] {}, 0L, 5000);
        gasEdge(check, 0L, new long[] {5, 0}, 6L, 20000);
        gasEdge(check, 5L, new long[] {6, 5}, 7L, 2900);
        leastGasEdge(check, 0L, new long[] {}, 0L, 2200);
        leastGasEdge(check, 5L, new long[] {6}, 6L, 100);
        leastGasEdge(check, 5L, new long[] {6}, 0L, 100);
    }

    private static void gasEdge(Check check, long first, long[] before, long v, int cost) {
        refused(check, () -> run(first, before), v, cost - 1);
        check.due("store with just enough gas", cost, run(first, before).store(3, 63, v, cost));
    }

    /** However little the store costs, this much gas is not enough. */
    private static void leastGasEdge(Check check, long first, long[] before, long v, int cost) {
        int[] tooLittle = {2300, 2299, 2200, 100, 99, 1, 0, -1, Integer.MIN_VALUE};
        for (int gas : tooLittle) {
            refused(check, () -> run(first, before), v, gas);
        }
        check.due("store with gas 2301", cost, run(first, before).store(3, 63, v, 2301));
        check.due("store with all gas", cost, run(first, before).store(3, 63, v, Integer.MAX_VALUE));
    }

    private static void refused(Check check, Supplier<StorageCosts> made, long v, int gas) {
        check.refused("store " + v + " with gas " + gas, made, Check.STATE, x -> x.store(3, 63, v, gas));
    }

    private static void refusedStoreTouchesNothing(Check check) {
        StorageCosts x = new StorageCosts();
        Check.outcome(() -> x.store(3, 63, 1L, 22099));
        check.due("touched by a refused store", false, x.touched(3, 63));
        Check.outcome(() -> x.store(3, 63, 0L, 2300));
        check.due("load after a refused store", 2100, x.load(3, 63));
    }

    private static void refusedStoreGivesNothingBack(Check check) {
        StorageCosts x = run(5L, new long[] {0L});
        check.thrown("store that would take back", Check.STATE, () -> x.store(3, 63, 6L, 2300));
        check.due("refund", 15000, x.count(0));
        check.thrown("store that would restore", Check.STATE, () -> x.store(3, 63, 5L, 2300));
        check.due("refund", 15000, x.count(0));
        check.due("held", 0L, x.held(3, 63, false));

        StorageCosts y = run(5L, new long[] {});
        check.thrown("store that would empty", Check.STATE, () -> y.store(3, 63, 0L, 4999));
        check.due("refund", 0, y.count(0));
        check.due("held", 5L, y.held(3, 63, false));
    }

    private static void refusedStoreInAMessage(Check check) {
        StorageCosts x = run(5L, new long[] {});
        x.open();
        check.thrown("store in a message", Check.STATE, () -> x.store(3, 63, 0L, 4999));
        check.due("depth: the message stays open", 1, x.count(2));
        check.due("touched in the message", 0, x.count(1));
        check.due("close(true)", 0, x.close(true));
        check.due("touched after it", 0, x.count(1));
        check.due("refund after it", 0, x.count(0));
        check.due("held after it", 5L, x.held(3, 63, false));
    }

    /** The 2100 of an untouched place is part of what is held against the gas, and only then. */
    private static void whatWasTouchedCountsForGas(Check check) {
        StorageCosts x = run(5L, new long[] {});
        check.thrown("untouched, gas for a touched one", Check.STATE, () -> x.store(3, 63, 6L, 2900));
        x.load(3, 63);
        check.thrown("touched, one less than it costs", Check.STATE, () -> x.store(3, 63, 6L, 2899));
        check.due("touched, just what it costs", 2900, x.store(3, 63, 6L, 2900));

        StorageCosts y = new StorageCosts();
        check.thrown("empty, gas for a touched one", Check.STATE, () -> y.store(3, 63, 6L, 20000));
        y.load(3, 63);
        check.thrown("empty, one less than it costs", Check.STATE, () -> y.store(3, 63, 6L, 19999));
        check.due("empty, just what it costs", 20000, y.store(3, 63, 6L, 20000));
    }

    private static void messagesDoNotMoveFirst(Check check) {
        StorageCosts x = run(5L, new long[] {});
        x.open();
        check.due("store in a message", 5000, x.store(3, 63, 6L, PLENTY));
        x.open();
        check.due("store in the next", 100, x.store(3, 63, 7L, PLENTY));
        x.close(true);
        x.close(true);
        check.due("store behind both", 100, x.store(3, 63, 5L, PLENTY));
        check.due("refund", 2800, x.count(0));
    }

    private static void placesNextToItStay(Check check) {
        StorageCosts x = new StorageCosts();
        x.store(1, 0, 1L, PLENTY);
        x.store(1, 63, 2L, PLENTY);
        int[][] others = {{0, 63}, {1, 1}, {1, 62}, {2, 0}, {2, 63}, {0, 0}};
        for (int[] other : others) {
            check.due("held of another", 0L, x.held(other[0], other[1], false));
            check.due("touched of another", false, x.touched(other[0], other[1]));
        }
        check.due("held", 1L, x.held(1, 0, false));
        check.due("held", 2L, x.held(1, 63, false));
    }

    private static void wrongPlaceComesBeforeGas(Check check) {
        for (int gas : new int[] {2300, 0, -1, Integer.MIN_VALUE, 2301, 22099}) {
            check.refused("store of 4, 0 with gas " + gas, StorageCosts::new, Check.ARGUMENT,
                    x -> x.store(4, 0, 1L, gas));
            check.refused("store of 0, 64 with gas " + gas, StorageCosts::new, Check.ARGUMENT,
                    x -> x.store(0, 64, 1L, gas));
        }
    }

    private static void wrongPlaces(Check check) {
        WrongPlaces wrong = new WrongPlaces(check, () -> run(5L, new long[] {0L}));
        wrong.refused("store", (x, o, p) -> x.store(o, p, 1L, PLENTY));
        wrong.refused("store with no gas", (x, o, p) -> x.store(o, p, 1L, 0));
    }
}
