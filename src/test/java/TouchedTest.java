/** Promise 8: whether a place is touched. */
public final class TouchedTest {
    public static void main(String[] args) {
        Check check = new Check();
        onlyThePlaceThatWasTouched(check);
        byStoreOfTheSameValue(check);
        askingTouchesNothing(check);
        refusedCallsTouchNothing(check);
        messagesAndBegin(check);
        allAndNone(check);
        wrongPlaces(check);
        check.end();
    }

    private static void onlyThePlaceThatWasTouched(Check check) {
        for (int i = 0; i < 256; i++) {
            StorageCosts x = new StorageCosts();
            if (i % 2 == 0) {
                x.load(i / 64, i % 64);
            } else {
                x.store(i / 64, i % 64, 1L, 30000);
            }
            for (int j = 0; j < 256; j++) {
                check.due("touched " + j + " after " + i, i == j, x.touched(j / 64, j % 64));
            }
        }
    }

    private static void byStoreOfTheSameValue(Check check) {
        StorageCosts x = new StorageCosts();
        x.store(0, 0, 0L, 30000);
        check.due("touched by a store of what it holds", true, x.touched(0, 0));
    }

    private static void askingTouchesNothing(Check check) {
        StorageCosts x = new StorageCosts();
        check.due("touched", false, x.touched(1, 1));
        check.due("touched again", false, x.touched(1, 1));
        check.due("how many", 0, x.count(1));
    }

    private static void refusedCallsTouchNothing(Check check) {
        StorageCosts x = new StorageCosts();
        check.thrown("store with too little gas", Check.STATE, () -> x.store(0, 0, 1L, 22099));
        check.thrown("store with gas 2300", Check.STATE, () -> x.store(0, 0, 0L, 2300));
        check.due("touched after refused stores", false, x.touched(0, 0));
        check.thrown("load of 0, 64", Check.ARGUMENT, () -> x.load(0, 64));
        check.due("touched of 1, 0", false, x.touched(1, 0));
        check.due("touched of 0, 0", false, x.touched(0, 0));
        check.due("how many", 0, x.count(1));
    }

    private static void messagesAndBegin(Check check) {
        StorageCosts x = new StorageCosts();
        x.open();
        x.load(1, 63);
        check.due("touched in the message", true, x.touched(1, 63));
        x.close(false);
        check.due("touched after it is taken back", false, x.touched(1, 63));
        x.open();
        x.load(1, 63);
        x.close(true);
        check.due("touched after a good one", true, x.touched(1, 63));
        x.begin();
        check.due("touched after begin", false, x.touched(1, 63));
    }

    private static void allAndNone(Check check) {
        StorageCosts x = new StorageCosts();
        for (int i = 0; i < 256; i++) {
            x.load(i / 64, i % 64);
        }
        for (int i = 0; i < 254; i++) {
            check.due("touched " + i + " of all", true, x.touched(i / 64, i % 64));
        }
        x.begin();
        check.due("touched after begin", false, x.touched(3, 63));
    }

    private static void wrongPlaces(Check check) {
        new WrongPlaces(check, StorageCosts::new).refused("touched", StorageCosts::touched);
    }
}
