/** Promise 9: the four counts. */
public final class CountTest {
    public static void main(String[] args) {
        Check check = new Check();
        eachCount(check);
        refundTakenAway(check);
        for (int o = 0; o <= 3; o++) {
            placesOfOneOwner(check, o);
        }
        allPlaces(check);
        leastAndMostTouched(check);
        leastAndMostDepth(check);
        leastAndMostFilled(check);
        refundRisesAndFalls(check);
        asOftenAsAsked(check);
        wrongWhat(check);
        check.end();
    }

    private static void eachCount(Check check) {
        StorageCosts x = new StorageCosts();
        x.store(0, 0, 5L, 30000);
        x.store(1, 0, 5L, 30000);
        x.begin();
        x.open();
        x.open();
        x.open();
        x.store(0, 0, 0L, 30000);
        x.load(2, 2);
        x.store(3, 3, 0L, 30000);
        x.load(3, 4);
        x.store(3, 5, 1L, 30000);
        check.due("refund", 15000, x.count(0));
        check.due("touched", 5, x.count(1));
        check.due("depth", 3, x.count(2));
        check.due("places not 0", 2, x.count(3));
    }

    /** The lowest REFUND that the document's own rules let a run come to is 0, by way of 15000. */
    private static void refundTakenAway(Check check) {
        StorageCosts x = new StorageCosts();
        x.store(0, 0, 5L, 30000);
        x.begin();
        x.store(0, 0, 0L, 30000);
        x.store(0, 0, 6L, 30000);
        check.due("refund given and taken", 0, x.count(0));
        x.store(0, 0, 0L, 30000);
        x.open();
        x.store(0, 0, 7L, 30000);
        check.due("refund taken in a message", 0, x.count(0));
        x.close(false);
        check.due("refund as before", 15000, x.count(0));
    }

    private static void placesOfOneOwner(Check check, int o) {
        StorageCosts x = new StorageCosts();
        for (int p = 0; p <= 63; p++) {
            x.store(o, p, p % 2 == 0 ? -1L : 1L << 40, 30000);
            check.due("touched", p + 1, x.count(1));
            check.due("places not 0", p + 1, x.count(3));
        }
        for (int p = 0; p <= 63; p++) {
            x.store(o, p, 0L, 30000);
            check.due("touched", 64, x.count(1));
            check.due("places not 0", 63 - p, x.count(3));
        }
        check.due("refund", 64 * 19900, x.count(0));
    }

    private static void allPlaces(Check check) {
        StorageCosts x = new StorageCosts();
        for (int i = 0; i < 256; i++) {
            x.store(i / 64, i % 64, Long.MIN_VALUE, 30000);
        }
        check.due("all touched", 256, x.count(1));
        check.due("all places not 0", 256, x.count(3));
        check.due("begin with all places filled", 256, x.begin());
        for (int i = 0; i < 250; i++) {
            x.store(i / 64, i % 64, 0L, 30000);
        }
        check.due("refund", 250 * 15000, x.count(0));
        check.due("touched", 250, x.count(1));
        check.due("places not 0", 6, x.count(3));
    }

    private static void leastAndMostTouched(Check check) {
        StorageCosts x = new StorageCosts();
        check.due("none touched", 0, x.count(1));
        for (int i = 0; i < 256; i++) {
            x.load(i / 64, i % 64);
            if (i < 250) {
                check.due("touched", i + 1, x.count(1));
            }
        }
        check.due("all touched", 256, x.count(1));
        check.due("none filled by loads", 0, x.count(3));
    }

    private static void leastAndMostDepth(Check check) {
        StorageCosts x = new StorageCosts();
        check.due("none open", 0, x.count(2));
        check.thrown("close with none open", Check.STATE, () -> x.close(true));
        check.due("none open still", 0, x.count(2));
        for (int i = 1; i <= 30; i++) {
            x.open();
            check.due("depth", i, x.count(2));
        }
        check.thrown("open with thirty open", Check.INDEX, x::open);
        check.due("thirty open still", 30, x.count(2));
        x.begin();
        check.due("none open after begin", 0, x.count(2));
    }

    private static void leastAndMostFilled(Check check) {
        StorageCosts x = new StorageCosts();
        x.store(0, 0, 0L, 30000);
        check.due("a store of 0 fills nothing", 0, x.count(3));
        x.store(0, 0, 1L, 30000);
        x.store(0, 0, 2L, 30000);
        check.due("a place counts once", 1, x.count(3));
        x.open();
        for (int i = 0; i < 256; i++) {
            x.store(i / 64, i % 64, 1L << 63, 30000);
        }
        check.due("all filled", 256, x.count(3));
        x.close(false);
        check.due("all but one taken back", 1, x.count(3));
        x.store(0, 0, 0L, 30000);
        check.due("none filled", 0, x.count(3));
    }

    private static void refundRisesAndFalls(Check check) {
        StorageCosts x = new StorageCosts();
        x.store(0, 0, 5L, 30000);
        x.store(0, 1, 5L, 30000);
        x.begin();
        x.store(0, 0, 0L, 30000);
        x.store(0, 1, 0L, 30000);
        check.due("both emptied", 30000, x.count(0));
        x.store(0, 0, 6L, 30000);
        check.due("one filled again", 15000, x.count(0));
        x.store(0, 1, 5L, 30000);
        check.due("the other filled as at first", 2800, x.count(0));
        x.store(0, 1, 0L, 30000);
        x.store(0, 1, 6L, 30000);
        check.due("emptied and filled otherwise", 2800, x.count(0));
    }

    private static void asOftenAsAsked(Check check) {
        StorageCosts x = someState();
        int[] due = {0, 1, 1, 1};
        for (int i = 0; i < 40; i++) {
            check.due("count(" + i % 4 + ") asked again", due[i % 4], x.count(i % 4));
        }
        check.due("shown", Check.shown(CountTest::someState), Check.shown(() -> {
            StorageCosts y = someState();
            for (int what = 0; what <= 3; what++) {
                y.count(what);
            }
            return y;
        }));
    }

    private static void wrongWhat(Check check) {
        int[] wrong = {-1, 4, 5, 7, -4, 256, 1 << 16, Integer.MIN_VALUE, Integer.MAX_VALUE};
        for (int what : wrong) {
            check.refused("count(" + what + ")", CountTest::someState, Check.ARGUMENT, x -> x.count(what));
        }
    }

    private static StorageCosts someState() {
        StorageCosts x = new StorageCosts();
        x.open();
        x.store(0, 0, 1L, 30000);
        return x;
    }
}
