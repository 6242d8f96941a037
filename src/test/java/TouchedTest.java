/** Promise 8: whether a place is touched. */
public final class TouchedTest {
    public static void main(String[] args) {
        Check check = new Check();
        onlyThePlaceThatWasTouched(check);
        byStoreOfTheSameValue(check);
        askingTouchesNothing(check);
        wrongPlaces(check);
        check.end();
    }

    private static void onlyThePlaceThatWasTouched(Check check) {
        for (int i = 0; i < 256; i++) {
            StorageCosts x = new StorageCosts();
            if (i % 2 == 0) {
                x.load(i / 64, i % 64);
            } else {
                x.store(i / 64, i % 64, 1L, 30000);
            }
            for (int j = 0; j < 256; j++) {
                check.due("touched " + j + " after " + i, i == j, x.touched(j / 64, j % 64));
            }
        }
    }

    private static void byStoreOfTheSameValue(Check check) {
        StorageCosts x = new StorageCosts();
        x.store(0, 0, 0L, 30000);
        check.due("touched by a store of what it holds", true, x.touched(0, 0));
    }

    private static void askingTouchesNothing(Check check) {
        StorageCosts x = new StorageCosts();
        check.due("touched", false, x.touched(1, 1));
        check.due("touched again", false, x.touched(1, 1));
        check.due("how many", 0, x.count(1));
    }

    private static void wrongPlaces(Check check) {
        new WrongPlaces(check, StorageCosts::new).refused("touched", StorageCosts::touched);
    }
}
