/** Promise 5: what a load costs, and that it touches. */
public final class LoadTest {
    public static void main(String[] args) {
        Check check = new Check();
        everyPlaceOnItsOwn(check);
        afterStore(check);
        changesOnlyTouched(check);
        afterAMessage(check);
        afterBegin(check);
        afterARefusedStore(check);
        neverGivesBack(check);
        wrongPlaces(check);
        check.end();
    }

    private static void everyPlaceOnItsOwn(Check check) {
        StorageCosts x = new StorageCosts();
        loadAll(check, "first", x, 2100);
        loadAll(check, "second", x, 100);
    }

    private static void loadAll(Check check, String which, StorageCosts x, int cost) {
        for (int o = 0; o <= 3; o++) {
            for (int p = 0; p <= 63; p++) {
                check.due(which + " load of " + o + ", " + p, cost, x.load(o, p));
            }
        }
    }

    private static void afterStore(Check check) {
        StorageCosts x = new StorageCosts();
        x.store(1, 2, 3L, 30000);
        check.due("load after store", 100, x.load(1, 2));
        check.due("load of the next place", 2100, x.load(1, 3));
        check.due("load of the next owner", 2100, x.load(2, 2));
    }

    private static void changesOnlyTouched(Check check) {
        StorageCosts x = new StorageCosts();
        x.store(1, 2, 3L, 30000);
        x.begin();
        x.load(1, 2);
        check.due("held", 3L, x.held(1, 2, false));
        check.due("first", 3L, x.held(1, 2, true));
        check.due("touched", true, x.touched(1, 2));
        check.due("refund", 0, x.count(0));
        check.due("depth", 0, x.count(2));
        check.due("places not 0", 1, x.count(3));
    }

    private static void afterAMessage(Check check) {
        StorageCosts x = new StorageCosts();
        x.open();
        x.load(0, 63);
        x.close(false);
        check.due("load after one that was taken back", 2100, x.load(0, 63));
        x.open();
        check.due("load within, of what is touched outside", 100, x.load(0, 63));
        check.due("load within, of another", 2100, x.load(1, 0));
        x.close(true);
        check.due("load after a good message", 100, x.load(1, 0));
    }

    private static void afterBegin(Check check) {
        StorageCosts x = new StorageCosts();
        x.load(3, 0);
        check.due("load before begin", 100, x.load(3, 0));
        x.begin();
        check.due("load after begin", 2100, x.load(3, 0));
        check.due("load after that", 100, x.load(3, 0));
    }

    private static void afterARefusedStore(Check check) {
        StorageCosts x = new StorageCosts();
        check.thrown("store with too little gas", Check.STATE, () -> x.store(3, 0, 1L, 22099));
        check.thrown("store with gas 2300", Check.STATE, () -> x.store(3, 0, 0L, 2300));
        check.due("load after refused stores", 2100, x.load(3, 0));
    }

    private static void neverGivesBack(Check check) {
        StorageCosts x = new StorageCosts();
        x.store(0, 0, 5L, 30000);
        x.begin();
        x.store(0, 0, 0L, 30000);
        x.load(0, 0);
        x.load(0, 1);
        check.due("refund after loads", 15000, x.count(0));
    }

    private static void wrongPlaces(Check check) {
        new WrongPlaces(check, LoadTest::someState).refused("load", StorageCosts::load);
    }

    private static StorageCosts someState() {
        StorageCosts x = new StorageCosts();
        x.open();
        x.store(0, 0, 1L, 30000);
        return x;
    }
}
