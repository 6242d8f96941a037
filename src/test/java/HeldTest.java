/** Promise 7: what a place holds, and what it held when the run began. */
public final class HeldTest {
    public static void main(String[] args) {
        Check check = new Check();
        for (int o = 0; o <= 3; o++) {
            everyPlaceOnItsOwn(check, o);
        }
        wideValues(check);
        touchesNothing(check);
        inMessages(check);
        atTheCorners(check);
        wrongPlaces(check);
        check.end();
    }

    private static void everyPlaceOnItsOwn(Check check, int o) {
        StorageCosts x = new StorageCosts();
        for (int i = 0; i < 256; i++) {
            x.store(i / 64, i % 64, 1000L + i, 30000);
        }
        x.begin();
        for (int p = 0; p <= 63; p++) {
            x.store(o, p, 2000L + p, 30000);
        }
        for (int p = 0; p <= 63; p++) {
            check.due("held of " + o + ", " + p, 2000L + p, x.held(o, p, false));
            check.due("first of " + o + ", " + p, 1000L + 64 * o + p, x.held(o, p, true));
        }
        int next = (o + 1) % 4;
        check.due("held of the next owner", 1000L + 64 * next + 5, x.held(next, 5, false));
    }

    private static void wideValues(Check check) {
        long[] values = {Long.MIN_VALUE, Long.MAX_VALUE, -1L, 1L << 32, 1L};
        for (long v : values) {
            StorageCosts x = new StorageCosts();
            x.store(2, 40, v, 30000);
            check.due("held", v, x.held(2, 40, false));
            check.due("first before begin", 0L, x.held(2, 40, true));
            x.begin();
            check.due("first after begin", v, x.held(2, 40, true));
        }
    }

    private static void touchesNothing(Check check) {
        StorageCosts x = new StorageCosts();
        x.held(0, 0, false);
        x.held(0, 1, true);
        check.due("touched by held", 0, x.count(1));
        check.due("load after held", 2100, x.load(0, 0));
    }

    private static void inMessages(Check check) {
        StorageCosts x = new StorageCosts();
        x.store(0, 0, 100L, 30000);
        x.begin();
        for (int i = 1; i <= 30; i++) {
            x.open();
            x.store(0, 0, i, 30000);
            check.due("held in message " + i, (long) i, x.held(0, 0, false));
            check.due("first in message " + i, 100L, x.held(0, 0, true));
        }
        x.close(false);
        check.due("held after the thirtieth is taken back", 29L, x.held(0, 0, false));
        x.close(true);
        check.due("held after the next is good", 29L, x.held(0, 0, false));
        check.due("first after both", 100L, x.held(0, 0, true));
    }

    private static void atTheCorners(Check check) {
        StorageCosts x = new StorageCosts();
        x.store(0, 0, 1L, 30000);
        x.store(0, 63, 2L, 30000);
        x.store(3, 0, 3L, 30000);
        x.store(3, 63, 4L, 30000);
        check.due("held of 0, 0", 1L, x.held(0, 0, false));
        check.due("held of 0, 63", 2L, x.held(0, 63, false));
        check.due("held of 3, 0", 3L, x.held(3, 0, false));
        check.due("held of 3, 63", 4L, x.held(3, 63, false));
        check.due("first of 3, 63", 0L, x.held(3, 63, true));
    }

    private static void wrongPlaces(Check check) {
        WrongPlaces wrong = new WrongPlaces(check, StorageCosts::new);
        wrong.refused("held", (x, o, p) -> x.held(o, p, false));
        wrong.refused("held first", (x, o, p) -> x.held(o, p, true));
    }
}
