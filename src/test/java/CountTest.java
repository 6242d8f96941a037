/** Promise 9: the four counts. */
public final class CountTest {
    public static void main(String[] args) {
        Check check = new Check();
        eachCount(check);
        refundTakenAway(check);
        for (int o = 0; o <= 3; o++) {
            placesOfOneOwner(check, o);
        }
        allPlaces(check);
        wrongWhat(check);
        check.end();
    }

    private static void eachCount(Check check) {
        StorageCosts x = new StorageCosts();
        x.store(0, 0, 5L, 30000);
        x.store(1, 0, 5L, 30000);
        x.begin();
        x.open();
        x.open();
        x.open();
        x.store(0, 0, 0L, 30000);
        x.load(2, 2);
        x.store(3, 3, 0L, 30000);
        x.load(3, 4);
        x.store(3, 5, 1L, 30000);
        check.due("refund", 15000, x.count(0));
        check.due("touched", 5, x.count(1));
        check.due("depth", 3, x.count(2));
        check.due("places not 0", 2, x.count(3));
    }

    private static void refundTakenAway(Check check) {
        StorageCosts x = new StorageCosts();
        x.store(0, 0, 5L, 30000);
        x.begin();
        x.store(0, 0, 0L, 30000);
        x.store(0, 0, 6L, 30000);
        check.due("refund given and taken", 0, x.count(0));
        x.store(0, 0, 0L, 30000);
        x.open();
        x.store(0, 0, 7L, 30000);
        check.due("refund taken in a message", 0, x.count(0));
        x.close(false);
        check.due("refund as before", 15000, x.count(0));
    }

    private static void placesOfOneOwner(Check check, int o) {
        StorageCosts x = new StorageCosts();
        for (int p = 0; p <= 63; p++) {
            x.store(o, p, p % 2 == 0 ? -1L : 1L << 40, 30000);
            check.due("touched", p + 1, x.count(1));
            check.due("places not 0", p + 1, x.count(3));
        }
        for (int p = 0; p <= 63; p++) {
            x.store(o, p, 0L, 30000);
            check.due("touched", 64, x.count(1));
            check.due("places not 0", 63 - p, x.count(3));
        }
        check.due("refund", 64 * 19900, x.count(0));
    }

    private static void allPlaces(Check check) {
        StorageCosts x = new StorageCosts();
        for (int i = 0; i < 256; i++) {
            x.store(i / 64, i % 64, Long.MIN_VALUE, 30000);
        }
        check.due("all touched", 256, x.count(1));
        check.due("all places not 0", 256, x.count(3));
        check.due("begin with all places filled", 256, x.begin());
        for (int i = 0; i < 250; i++) {
            x.store(i / 64, i % 64, 0L, 30000);
        }
        check.due("refund", 250 * 15000, x.count(0));
        check.due("touched", 250, x.count(1));
        check.due("places not 0", 6, x.count(3));
    }

    private static void wrongWhat(Check check) {
        int[] wrong = {-1, 4, 5, Integer.MIN_VALUE, Integer.MAX_VALUE};
        for (int what : wrong) {
            check.refused("count(" + what + ")", CountTest::someState, Check.ARGUMENT, x -> x.count(what));
        }
    }

    private static StorageCosts someState() {
        StorageCosts x = new StorageCosts();
        x.open();
        x.store(0, 0, 1L, 30000);
        return x;
    }
}
