/** Promise 1: all places hold 0, nothing is touched, no message is open, as if a run had begun. */
public final class NewObjectTest {
    public static void main(String[] args) {
        Check check = new Check();
        for (int o = 0; o <= 3; o++) {
            everythingIsZero(check, o);
        }
        aRunIsOnAtOnce(check);
        noMessageIsOpen(check);
        beginOnItChangesNothing(check);
        objectsAreApart(check);
        check.end();
    }

    private static void everythingIsZero(Check check, int o) {
        StorageCosts x = new StorageCosts();
        for (int what = 0; what <= 3; what++) {
            check.due("new: count(" + what + ")", 0, x.count(what));
        }
        for (int p = 0; p <= 63; p++) {
            check.due("new: held", 0L, x.held(o, p, false));
            check.due("new: held first", 0L, x.held(o, p, true));
            check.due("new: touched", false, x.touched(o, p));
        }
    }

    private static void aRunIsOnAtOnce(Check check) {
        StorageCosts x = new StorageCosts();
        check.due("store before any begin", 22100, x.store(0, 0, 5L, 22100));
        check.due("its first", 0L, x.held(0, 0, true));
        check.due("back to first", 100, x.store(0, 0, 0L, 2301));
        check.due("refund", 19900, x.count(0));
    }

    private static void noMessageIsOpen(Check check) {
        check.refused("close(true) on a new object", StorageCosts::new, Check.STATE, x -> x.close(true));
        check.refused("close(false) on a new object", StorageCosts::new, Check.STATE, x -> x.close(false));
        check.due("open on a new object", 1, new StorageCosts().open());
    }

    private static void beginOnItChangesNothing(Check check) {
        check.due("shown after begin", Check.shown(StorageCosts::new), Check.shown(() -> {
            StorageCosts x = new StorageCosts();
            check.due("begin on a new object", 0, x.begin());
            return x;
        }));
    }

    private static void objectsAreApart(Check check) {
        StorageCosts x = new StorageCosts();
        StorageCosts y = new StorageCosts();
        x.store(1, 2, 3L, 30000);
        x.begin();
        x.open();
        x.store(1, 2, 0L, 30000);
        for (int what = 0; what <= 3; what++) {
            check.due("another object's count", 0, y.count(what));
        }
        check.due("another object's held", 0L, y.held(1, 2, false));
        check.due("another object's first", 0L, y.held(1, 2, true));
        check.due("another object's touched", false, y.touched(1, 2));
    }
}
