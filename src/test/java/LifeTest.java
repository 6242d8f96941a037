import java.util.function.Consumer;

/** "What it is": an object is used for 512 calls, and the last of them answers as the first did. */
public final class LifeTest {
    private static final int CALLS = 512;

    public static void main(String[] args) {
        Check check = new Check();
        lastCallOfEachKind(check);
        lastCallRefused(check);
        onlyOpensAndCloses(check);
        onlyBegins(check);
        onlyStores(check);
        onlyRefusedCalls(check);
        check.end();
    }

    private static void lastCallOfEachKind(Check check) {
        check.due("last call begin", 1, used(CALLS - 1).begin());
        check.due("last call open", 2, used(CALLS - 1).open());
        check.due("last call close(true)", 0, used(CALLS - 1).close(true));
        check.due("last call close(false)", 0, used(CALLS - 1).close(false));
        check.due("last call load", 2100, used(CALLS - 1).load(2, 2));
        check.due("last call load of a touched place", 100, used(CALLS - 1).load(0, 0));
        check.due("last call store", 22100, used(CALLS - 1).store(2, 2, 1L, 22100));
        check.due("last call held", 7L, used(CALLS - 1).held(0, 0, false));
        check.due("last call held first", 0L, used(CALLS - 1).held(0, 0, true));
        check.due("last call touched", true, used(CALLS - 1).touched(0, 0));
        int[] counts = {0, 1, 1, 1};
        for (int what = 0; what <= 3; what++) {
            check.due("last call count(" + what + ")", counts[what], used(CALLS - 1).count(what));
        }
    }

    private static void lastCallRefused(Check check) {
        check.thrown("last call load", Check.ARGUMENT, () -> used(CALLS - 1).load(0, 64));
        check.thrown("last call store", Check.ARGUMENT, () -> used(CALLS - 1).store(4, 0, 1L, 0));
        check.thrown("last call store", Check.STATE, () -> used(CALLS - 1).store(0, 0, 1L, 2300));
        check.thrown("last call held", Check.ARGUMENT, () -> used(CALLS - 1).held(-1, 0, false));
        check.thrown("last call touched", Check.ARGUMENT, () -> used(CALLS - 1).touched(0, -1));
        check.thrown("last call count", Check.ARGUMENT, () -> used(CALLS - 1).count(4));
        check.thrown("last call close", Check.STATE, () -> repeated(CALLS - 1, StorageCosts::begin).close(true));
        check.thrown("last call open", Check.INDEX, () -> repeated(CALLS - 1, x -> Check.outcome(x::open)).open());
    }

    /** One message is open, in which one place was filled; the other calls went before it, in runs and messages. */
    private static StorageCosts used(int calls) {
        StorageCosts x = new StorageCosts();
        for (int i = 0; i < calls - 3; i++) {
            switch (i % 4) {
                case 0 -> x.open();
                case 1 -> x.store(i % 3, i % 64, i, 30000);
                case 2 -> x.load(3, i % 64);
                default -> x.close(false);
            }
        }
        // What the last message of the row did goes with it: 508 calls are 127 whole messages.
        x.begin();
        x.open();
        x.store(0, 0, 7L, 30000);
        return x;
    }

    private static StorageCosts repeated(int calls, Consumer<StorageCosts> call) {
        StorageCosts x = new StorageCosts();
        for (int i = 0; i < calls; i++) {
            call.accept(x);
        }
        return x;
    }

    private static void onlyOpensAndCloses(Check check) {
        StorageCosts x = new StorageCosts();
        for (int i = 0; i < CALLS / 2; i++) {
            check.due("open", 1, x.open());
            check.due("close", 0, x.close(i % 2 == 0));
        }
        StorageCosts y = new StorageCosts();
        for (int i = 0; i < CALLS; i++) {
            int place = i % 60;
            if (place < 30) {
                check.due("open in a row of thirty", place + 1, y.open());
            } else {
                check.due("close in a row of thirty", 59 - place, y.close(place % 2 == 0));
            }
        }
    }

    private static void onlyBegins(Check check) {
        StorageCosts x = new StorageCosts();
        x.store(3, 3, 3L, 30000);
        for (int i = 1; i < CALLS; i++) {
            check.due("begin", 1, x.begin());
        }
    }

    /** The greatest REFUND that 512 calls can come to: it is not cut off anywhere. */
    private static void onlyStores(Check check) {
        StorageCosts x = new StorageCosts();
        check.due("first store", 22100, x.store(0, 0, 1L, 22100));
        check.due("store of 0", 100, x.store(0, 0, 0L, 2301));
        for (int i = 2; i < CALLS - 2; i += 2) {
            check.due("store on first", 20000, x.store(0, 0, i, 20000));
            check.due("store of first", 100, x.store(0, 0, 0L, 2301));
        }
        check.due("refund", 255 * 19900, x.count(0));
    }

    private static void onlyRefusedCalls(Check check) {
        StorageCosts x = new StorageCosts();
        for (int i = 1; i < CALLS; i++) {
            check.thrown("close with none open", Check.STATE, () -> x.close(false));
        }
        check.due("open as the last call", 1, x.open());
    }
}
