/** Promise 4: the latest message is closed, and taken back if it is not good. */
public final class CloseTest {
    public static void main(String[] args) {
        Check check = new Check();
        noneIsOpen(check);
        goodKeepsAll(check);
        badTakesAllBack(check);
        badTakesBackGoodOnesWithin(check);
        badWithinGoodTakesBackOnlyItself(check);
        firstStays(check);
        messagesAtOneDepthAreApart(check);
        throughAllThirty(check);
        refusedAgainAndAgain(check);
        emptyMessages(check);
        refundThatFellIsTakenBack(check);
        refundThatRoseIsTakenBack(check);
        touchedByTheOuterStaysTouched(check);
        goodThroughAllThirty(check);
        badOutermostTakesAllThirtyBack(check);
        firstOfZeroStays(check);
        everyPlaceIsTakenBack(check);
        everyPlaceIsKept(check);
        check.end();
    }

    private static void noneIsOpen(Check check) {
        check.refused("close(true) with none open", CloseTest::filled, Check.STATE, x -> x.close(true));
        check.refused("close(false) with none open", CloseTest::filled, Check.STATE, x -> x.close(false));
        StorageCosts x = filled();
        x.open();
        check.due("close of the only one", 0, x.close(true));
        check.due("close after the last", "throws " + Check.STATE.getName(), Check.outcome(() -> x.close(true)));
    }

    private static void goodKeepsAll(Check check) {
        StorageCosts x = filled();
        x.open();
        x.store(0, 0, 0L, 30000);
        x.load(3, 3);
        check.due("close(true)", 0, x.close(true));
        check.due("held", 0L, x.held(0, 0, false));
        check.due("refund", 15000, x.count(0));
        check.due("touched", 3, x.count(1));
        check.due("touched by load", true, x.touched(3, 3));
        check.due("places not 0", 0, x.count(3));
    }

    private static void badTakesAllBack(Check check) {
        check.due("state", Check.shown(CloseTest::filled), Check.shown(CloseTest::takenBack));
        StorageCosts x = takenBack();
        check.due("load of what was touched before", 100, x.load(1, 1));
        check.due("load of what was touched in it", 2100, x.load(3, 3));
        check.due("store on what it held before", 5000, x.store(0, 0, 0L, 30000));
    }

    private static StorageCosts takenBack() {
        StorageCosts x = filled();
        x.open();
        x.store(0, 0, 0L, 30000);
        x.store(2, 9, 9L, 30000);
        x.load(3, 3);
        x.load(1, 1);
        x.close(false);
        return x;
    }

    private static void badTakesBackGoodOnesWithin(Check check) {
        check.due("state", Check.shown(CloseTest::filled), Check.shown(() -> goodWithinBad(check)));
    }

    private static StorageCosts goodWithinBad(Check check) {
        StorageCosts x = filled();
        x.open();
        x.open();
        x.store(0, 0, 0L, 30000);
        x.load(3, 3);
        check.due("close(true) within", 1, x.close(true));
        check.due("refund within", 15000, x.count(0));
        check.due("close(false) outside", 0, x.close(false));
        return x;
    }

    private static void badWithinGoodTakesBackOnlyItself(Check check) {
        StorageCosts x = filled();
        x.open();
        x.store(0, 0, 6L, 30000);
        x.open();
        x.store(0, 0, 0L, 30000);
        x.load(3, 3);
        check.due("close(false) within", 1, x.close(false));
        check.due("held of the outer", 6L, x.held(0, 0, false));
        check.due("refund", 0, x.count(0));
        check.due("touched", 2, x.count(1));
        check.due("close(true) outside", 0, x.close(true));
        check.due("held", 6L, x.held(0, 0, false));
        check.due("touched", true, x.touched(0, 0));
    }

    private static void firstStays(Check check) {
        StorageCosts x = filled();
        x.open();
        x.store(0, 0, 8L, 30000);
        x.close(true);
        check.due("first after close(true)", 5L, x.held(0, 0, true));
        x.open();
        x.store(0, 0, 9L, 30000);
        x.close(false);
        check.due("first after close(false)", 5L, x.held(0, 0, true));
        check.due("held after close(false)", 8L, x.held(0, 0, false));
    }

    private static void messagesAtOneDepthAreApart(Check check) {
        StorageCosts x = filled();
        x.open();
        x.store(0, 1, 1L, 30000);
        x.close(false);
        x.open();
        check.due("held in the next message", 0L, x.held(0, 1, false));
        check.due("touched in the next message", false, x.touched(0, 1));
        x.store(0, 2, 2L, 30000);
        x.close(true);
        check.due("held", 0L, x.held(0, 1, false));
        check.due("held", 2L, x.held(0, 2, false));
    }

    private static void throughAllThirty(Check check) {
        StorageCosts x = new StorageCosts();
        for (int i = 1; i <= 30; i++) {
            x.open();
            x.store(0, 0, i, 30000);
            x.load(1, i);
        }
        for (int i = 29; i >= 0; i--) {
            check.due("close to " + i, i, x.close(false));
            check.due("depth", i, x.count(2));
            check.due("held at " + i, (long) i, x.held(0, 0, false));
            check.due("touched at " + i, i == 0 ? 0 : i + 1, x.count(1));
        }
    }

    private static void refusedAgainAndAgain(Check check) {
        StorageCosts x = filled();
        for (int i = 0; i < 40; i++) {
            check.thrown("close with none open", Check.STATE, () -> x.close(false));
            check.thrown("close with none open", Check.STATE, () -> x.close(true));
            check.due("depth after a refused close", 0, x.count(2));
        }
        check.due("open after refused closes", 1, x.open());
        check.due("close after refused closes", 0, x.close(true));
        check.thrown("close with none open again", Check.STATE, () -> x.close(true));
    }

    private static void emptyMessages(Check check) {
        for (boolean good : new boolean[] {true, false}) {
            check.due("shown after an empty message", Check.shown(CloseTest::filled), Check.shown(() -> {
                StorageCosts x = filled();
                x.open();
                x.open();
                check.due("close of an empty message", 1, x.close(good));
                check.due("close of one around an empty message", 0, x.close(good));
                return x;
            }));
        }
    }

    private static void refundThatFellIsTakenBack(Check check) {
        StorageCosts x = filled();
        x.store(0, 0, 0L, 30000);
        x.open();
        x.store(0, 0, 6L, 30000);
        check.due("refund in the message", 0, x.count(0));
        x.close(false);
        check.due("refund as when it was opened", 15000, x.count(0));
        check.due("held as when it was opened", 0L, x.held(0, 0, false));
        x.open();
        x.store(0, 0, 6L, 30000);
        x.close(true);
        check.due("refund after a good one", 0, x.count(0));
    }

    private static void refundThatRoseIsTakenBack(Check check) {
        StorageCosts x = filled();
        x.store(0, 0, 6L, 30000);
        x.open();
        x.store(0, 0, 5L, 30000);
        x.open();
        x.store(0, 0, 0L, 30000);
        check.due("refund in the inner message", 17800, x.count(0));
        x.close(false);
        check.due("refund as when the inner was opened", 2800, x.count(0));
        x.close(false);
        check.due("refund as when the outer was opened", 0, x.count(0));
        check.due("held as when the outer was opened", 6L, x.held(0, 0, false));
    }

    private static void touchedByTheOuterStaysTouched(Check check) {
        StorageCosts x = filled();
        x.open();
        x.load(2, 2);
        x.open();
        check.due("load of what the outer touched", 100, x.load(2, 2));
        x.load(2, 3);
        x.close(false);
        check.due("touched by both", true, x.touched(2, 2));
        check.due("touched by the inner", false, x.touched(2, 3));
        check.due("touched before", true, x.touched(1, 1));
        check.due("how many", 2, x.count(1));
    }

    private static void goodThroughAllThirty(Check check) {
        StorageCosts x = thirtyOpen();
        for (int i = 29; i >= 0; i--) {
            check.due("close(true) to " + i, i, x.close(true));
        }
        check.due("places not 0", 31, x.count(3));
        check.due("touched", 31, x.count(1));
        check.due("held of the innermost", 30L, x.held(2, 30, false));
        check.thrown("one close too many", Check.STATE, () -> x.close(true));
    }

    private static void badOutermostTakesAllThirtyBack(Check check) {
        check.due("shown", Check.shown(CloseTest::filled), Check.shown(() -> {
            StorageCosts x = thirtyOpen();
            for (int i = 29; i >= 1; i--) {
                x.close(true);
            }
            check.due("close(false) of the outermost", 0, x.close(false));
            return x;
        }));
    }

    private static StorageCosts thirtyOpen() {
        StorageCosts x = filled();
        for (int i = 1; i <= 30; i++) {
            x.open();
            x.store(2, i, i, 30000);
        }
        return x;
    }

    private static void everyPlaceIsTakenBack(Check check) {
        check.due("shown", Check.shown(CloseTest::filled), Check.shown(() -> {
            StorageCosts x = filledInAMessage();
            x.close(false);
            return x;
        }));
    }

    private static void everyPlaceIsKept(Check check) {
        String open = Check.shown(CloseTest::filledInAMessage);
        check.due("shown", open.replace("0 256 1 256 ", "0 256 0 256 "), Check.shown(() -> {
            StorageCosts x = filledInAMessage();
            x.close(true);
            return x;
        }));
    }

    private static StorageCosts filledInAMessage() {
        StorageCosts x = filled();
        x.open();
        for (int i = 0; i < 256; i++) {
            x.store(i / 64, i % 64, 1000L + i, 30000);
        }
        return x;
    }

    private static void firstOfZeroStays(Check check) {
        StorageCosts x = new StorageCosts();
        x.open();
        x.store(0, 0, 8L, 30000);
        x.close(true);
        check.due("first after close(true)", 0L, x.held(0, 0, true));
        x.open();
        check.due("back to first in a later message", 100, x.store(0, 0, 0L, 30000));
        check.due("refund for it", 19900, x.count(0));
        x.close(false);
        check.due("first after close(false)", 0L, x.held(0, 0, true));
        check.due("refund after close(false)", 0, x.count(0));
    }

    /** A run at whose beginning place 0 of owner 0 held 5, and in which another place is touched. */
    private static StorageCosts filled() {
        StorageCosts x = new StorageCosts();
        x.store(0, 0, 5L, 30000);
        x.begin();
        x.load(1, 1);
        return x;
    }
}
