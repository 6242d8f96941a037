/** Promise 4: the latest message is closed, and taken back if it is not good. */
public final class CloseTest {
    public static void main(String[] args) {
        Check check = new Check();
        noneIsOpen(check);
        goodKeepsAll(check);
        badTakesAllBack(check);
        badTakesBackGoodOnesWithin(check);
        badWithinGoodTakesBackOnlyItself(check);
        firstStays(check);
        messagesAtOneDepthAreApart(check);
        throughAllThirty(check);
        check.end();
    }

    private static void noneIsOpen(Check check) {
        check.refused("close(true) with none open", CloseTest::filled, Check.STATE, x -> x.close(true));
        check.refused("close(false) with none open", CloseTest::filled, Check.STATE, x -> x.close(false));
        StorageCosts x = filled();
        x.open();
        check.due("close of the only one", 0, x.close(true));
        check.due("close after the last", "throws " + Check.STATE.getName(), Check.outcome(() -> x.close(true)));
    }

    private static void goodKeepsAll(Check check) {
        StorageCosts x = filled();
        x.open();
        x.store(0, 0, 0L, 30000);
        x.load(3, 3);
        check.due("close(true)", 0, x.close(true));
        check.due("held", 0L, x.held(0, 0, false));
        check.due("refund", 15000, x.count(0));
        check.due("touched", 3, x.count(1));
        check.due("touched by load", true, x.touched(3, 3));
        check.due("places not 0", 0, x.count(3));
    }

    private static void badTakesAllBack(Check check) {
        check.due("state", Check.shown(CloseTest::filled), Check.shown(CloseTest::takenBack));
        StorageCosts x = takenBack();
        check.due("load of what was touched before", 100, x.load(1, 1));
        check.due("load of what was touched in it", 2100, x.load(3, 3));
        check.due("store on what it held before", 5000, x.store(0, 0, 0L, 30000));
    }

    private static StorageCosts takenBack() {
        StorageCosts x = filled();
        x.open();
        x.store(0, 0, 0L, 30000);
        x.store(2, 9, 9L, 30000);
        x.load(3, 3);
        x.load(1, 1);
        x.close(false);
        return x;
    }

    private static void badTakesBackGoodOnesWithin(Check check) {
        check.due("state", Check.shown(CloseTest::filled), Check.shown(() -> goodWithinBad(check)));
    }

    private static StorageCosts goodWithinBad(Check check) {
        StorageCosts x = filled();
        x.open();
        x.open();
        x.store(0, 0, 0L, 30000);
        x.load(3, 3);
        check.due("close(true) within", 1, x.close(true));
        check.due("refund within", 15000, x.count(0));
        check.due("close(false) outside", 0, x.close(false));
        return x;
    }

    private static void badWithinGoodTakesBackOnlyItself(Check check) {
        StorageCosts x = filled();
        x.open();
        x.store(0, 0, 6L, 30000);
        x.open();
        x.store(0, 0, 0L, 30000);
        x.load(3, 3);
        check.due("close(false) within", 1, x.close(false));
        check.due("held of the outer", 6L, x.held(0, 0, false));
        check.due("refund", 0, x.count(0));
        check.due("touched", 2, x.count(1));
        check.due("close(true) outside", 0, x.close(true));
        check.due("held", 6L, x.held(0, 0, false));
        check.due("touched", true, x.touched(0, 0));
    }

    private static void firstStays(Check check) {
        StorageCosts x = filled();
        x.open();
        x.store(0, 0, 8L, 30000);
        x.close(true);
        check.due("first after close(true)", 5L, x.held(0, 0, true));
        x.open();
        x.store(0, 0, 9L, 30000);
        x.close(false);
        check.due("first after close(false)", 5L, x.held(0, 0, true));
        check.due("held after close(false)", 8L, x.held(0, 0, false));
    }

    private static void messagesAtOneDepthAreApart(Check check) {
        StorageCosts x = filled();
        x.open();
        x.store(0, 1, 1L, 30000);
        x.close(false);
        x.open();
        check.due("held in the next message", 0L, x.held(0, 1, false));
        check.due("touched in the next message", false, x.touched(0, 1));
        x.store(0, 2, 2L, 30000);
        x.close(true);
        check.due("held", 0L, x.held(0, 1, false));
        check.due("held", 2L, x.held(0, 2, false));
    }

    private static void throughAllThirty(Check check) {
        StorageCosts x = new StorageCosts();
        for (int i = 1; i <= 30; i++) {
            x.open();
            x.store(0, 0, i, 30000);
            x.load(1, i);
        }
        for (int i = 29; i >= 0; i--) {
            check.due("close to " + i, i, x.close(false));
            check.due("depth", i, x.count(2));
            check.due("held at " + i, (long) i, x.held(0, 0, false));
            check.due("touched at " + i, i == 0 ? 0 : i + 1, x.count(1));
        }
    }

    /** A run at whose beginning place 0 of owner 0 held 5, and in which another place is touched. */
    private static StorageCosts filled() {
        StorageCosts x = new StorageCosts();
        x.store(0, 0, 5L, 30000);
        x.begin();
        x.load(1, 1);
        return x;
    }
}
