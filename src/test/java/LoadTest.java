/** Promise 5: what a load costs, and that it touches. */
public final class LoadTest {
    public static void main(String[] args) {
        Check check = new Check();
        everyPlaceOnItsOwn(check);
        afterStore(check);
        changesOnlyTouched(check);
        wrongPlaces(check);
        check.end();
    }

    private static void everyPlaceOnItsOwn(Check check) {
        StorageCosts x = new StorageCosts();
        loadAll(check, "first", x, 2100);
        loadAll(check, "second", x, 100);
    }

    private static void loadAll(Check check, String which, StorageCosts x, int cost) {
        for (int o = 0; o <= 3; o++) {
            for (int p = 0; p <= 63; p++) {
                check.due(which + " load of " + o + ", " + p, cost, x.load(o, p));
            }
        }
    }

    private static void afterStore(Check check) {
        StorageCosts x = new StorageCosts();
        x.store(1, 2, 3L, 30000);
        check.due("load after store", 100, x.load(1, 2));
        check.due("load of the next place", 2100, x.load(1, 3));
        check.due("load of the next owner", 2100, x.load(2, 2));
    }

    private static void changesOnlyTouched(Check check) {
        StorageCosts x = new StorageCosts();
        x.store(1, 2, 3L, 30000);
        x.begin();
        x.load(1, 2);
        check.due("held", 3L, x.held(1, 2, false));
        check.due("first", 3L, x.held(1, 2, true));
        check.due("touched", true, x.touched(1, 2));
        check.due("refund", 0, x.count(0));
        check.due("depth", 0, x.count(2));
        check.due("places not 0", 1, x.count(3));
    }

    private static void wrongPlaces(Check check) {
        new WrongPlaces(check, LoadTest::someState).refused("load", StorageCosts::load);
    }

    private static StorageCosts someState() {
        StorageCosts x = new StorageCosts();
        x.open();
        x.store(0, 0, 1L, 30000);
        return x;
    }
}
