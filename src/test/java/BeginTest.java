/** Promise 2: a run begins. */
public final class BeginTest {
    public static void main(String[] args) {
        Check check = new Check();
        answersPlacesNotZero(check);
        forgetsTouchedAndRefund(check);
        endsOpenMessagesAndKeepsWhatTheyWrote(check);
        endsOneOpenMessage(check);
        forgetsWhatMessagesTouched(check);
        firstIsAsAtTheLatestBegin(check);
        opensAfterBeginStartFromDepthZero(check);
        allIsFull(check);
        allIsEmptyAgain(check);
        thirtyOpenMessagesEnd(check);
        whatWasTakenBackStaysSo(check);
        aMessageAfterwardsGoesBackToTheBegin(check);
        check.end();
    }

    private static void answersPlacesNotZero(Check check) {
        StorageCosts x = new StorageCosts();
        check.due("begin on a new object", 0, x.begin());
        x.store(0, 0, 1L, 30000);
        x.store(3, 63, -1L, 30000);
        x.store(2, 5, Long.MIN_VALUE, 30000);
        x.load(1, 1);
        check.due("begin with three places filled", 3, x.begin());
        x.store(0, 0, 0L, 30000);
        check.due("begin with two places filled", 2, x.begin());
        check.due("begin again", 2, x.begin());
    }

    private static void forgetsTouchedAndRefund(Check check) {
        StorageCosts x = new StorageCosts();
        x.store(0, 0, 1L, 30000);
        x.begin();
        x.store(0, 0, 0L, 30000);
        for (int o = 0; o <= 3; o++) {
            x.load(o, 63);
        }
        check.due("refund before begin", 15000, x.count(0));
        check.due("touched before begin", 5, x.count(1));
        x.begin();
        check.due("refund after begin", 0, x.count(0));
        check.due("touched after begin", 0, x.count(1));
        for (int o = 0; o <= 3; o++) {
            check.due("touched after begin", false, x.touched(o, 63));
            check.due("load after begin", 2100, x.load(o, 63));
        }
    }

    private static void endsOpenMessagesAndKeepsWhatTheyWrote(Check check) {
        StorageCosts x = begunWithinMessages();
        check.due("depth", 0, x.count(2));
        check.due("places not 0", 2, x.count(3));
        check.due("held of the outer message", 70L, x.held(0, 7, false));
        check.due("first of the outer message", 70L, x.held(0, 7, true));
        check.due("held of the inner message", 80L, x.held(1, 8, false));
        check.due("first of the inner message", 80L, x.held(1, 8, true));
        check.refused("close after begin", BeginTest::begunWithinMessages, Check.STATE, y -> y.close(false));
        check.due("begin again", 2, x.begin());
    }

    private static void endsOneOpenMessage(Check check) {
        StorageCosts x = new StorageCosts();
        x.open();
        x.store(3, 1, 4L, 30000);
        check.due("begin within one message", 1, x.begin());
        check.due("depth", 0, x.count(2));
        check.due("held", 4L, x.held(3, 1, false));
        check.due("first", 4L, x.held(3, 1, true));
    }

    private static void forgetsWhatMessagesTouched(Check check) {
        StorageCosts x = begunWithinMessages();
        check.due("refund", 0, x.count(0));
        check.due("touched", 0, x.count(1));
        x.open();
        check.due("refund in the next message", 0, x.count(0));
        check.due("touched in the next message", 0, x.count(1));
        check.due("load in the next message", 2100, x.load(0, 7));
        x.close(false);
        check.due("load after it", 2100, x.load(0, 7));
    }

    private static StorageCosts begunWithinMessages() {
        StorageCosts x = new StorageCosts();
        x.store(2, 9, 90L, 30000);
        x.open();
        x.store(0, 7, 70L, 30000);
        x.store(2, 9, 0L, 30000);
        x.open();
        x.store(1, 8, 80L, 30000);
        x.begin();
        return x;
    }

    private static void firstIsAsAtTheLatestBegin(Check check) {
        StorageCosts x = new StorageCosts();
        x.store(2, 2, 5L, 30000);
        check.due("first before begin", 0L, x.held(2, 2, true));
        x.begin();
        check.due("first after begin", 5L, x.held(2, 2, true));
        x.store(2, 2, 6L, 30000);
        check.due("first after a store", 5L, x.held(2, 2, true));
        x.store(2, 2, 0L, 30000);
        x.begin();
        check.due("first after a begin on 0", 0L, x.held(2, 2, true));
    }

    private static void allIsFull(Check check) {
        StorageCosts x = allFilled();
        check.due("touched before begin", 256, x.count(1));
        check.due("begin with every place filled", 256, x.begin());
        check.due("touched after begin", 0, x.count(1));
        check.due("places not 0 after begin", 256, x.count(3));
        for (int i = 0; i < 252; i++) {
            check.due("first of " + i, 1L + i, x.held(i / 64, i % 64, true));
        }
    }

    private static void allIsEmptyAgain(Check check) {
        StorageCosts x = allFilled();
        for (int i = 0; i < 253; i++) {
            x.store(i / 64, i % 64, 0L, 30000);
        }
        check.due("begin with three places filled", 3, x.begin());

        StorageCosts y = new StorageCosts();
        y.store(2, 2, 2L, 30000);
        y.begin();
        y.store(2, 2, 0L, 30000);
        check.due("begin with the only place emptied", 0, y.begin());
        check.due("its first", 0L, y.held(2, 2, true));
        check.due("store on it costs as on an empty one", 22100, y.store(2, 2, 2L, 30000));
    }

    private static StorageCosts allFilled() {
        StorageCosts x = new StorageCosts();
        for (int i = 0; i < 256; i++) {
            x.store(i / 64, i % 64, 1L + i, 30000);
        }
        return x;
    }

    private static void thirtyOpenMessagesEnd(Check check) {
        check.due("depth", 0, begunWithinThirty().count(2));
        check.due("places not 0", 30, begunWithinThirty().count(3));
        check.refused("close(true)", BeginTest::begunWithinThirty, Check.STATE, x -> x.close(true));
        check.refused("close(false)", BeginTest::begunWithinThirty, Check.STATE, x -> x.close(false));
        for (int i = 1; i <= 30; i++) {
            check.due("held of message " + i, (long) i, begunWithinThirty().held(0, i, false));
            check.due("first of message " + i, (long) i, begunWithinThirty().held(0, i, true));
        }
    }

    private static StorageCosts begunWithinThirty() {
        StorageCosts x = new StorageCosts();
        for (int i = 1; i <= 30; i++) {
            x.open();
            x.store(0, i, i, 30000);
        }
        x.begin();
        return x;
    }

    private static void whatWasTakenBackStaysSo(Check check) {
        StorageCosts x = new StorageCosts();
        x.open();
        x.store(0, 0, 1L, 30000);
        x.open();
        x.store(0, 0, 2L, 30000);
        x.store(0, 1, 2L, 30000);
        x.close(false);
        check.due("begin behind a message taken back", 1, x.begin());
        check.due("first of what both wrote", 1L, x.held(0, 0, true));
        check.due("held of what both wrote", 1L, x.held(0, 0, false));
        check.due("first of what was taken back", 0L, x.held(0, 1, true));
        check.due("held of what was taken back", 0L, x.held(0, 1, false));
    }

    private static void aMessageAfterwardsGoesBackToTheBegin(Check check) {
        check.due("shown", Check.shown(BeginTest::begunWithinMessages), Check.shown(() -> {
            StorageCosts x = begunWithinMessages();
            x.open();
            x.store(0, 7, 0L, 30000);
            x.store(2, 9, 1L, 30000);
            x.close(false);
            return x;
        }));
    }

    private static void opensAfterBeginStartFromDepthZero(Check check) {
        StorageCosts x = new StorageCosts();
        for (int i = 1; i <= 30; i++) {
            x.open();
        }
        x.begin();
        for (int i = 1; i <= 30; i++) {
            check.due("open " + i + " after begin", i, x.open());
        }
    }
}
