import java.util.Random;
import java.util.function.Supplier;

/** All promises: long runs of mixed calls, each answer held against the model's. */
public final class ModelTest {
    private static final int RUNS = 3000;
    private static final int CALLS = 512;
    private static final long[] VALUES = {0L, 0L, 1L, 2L, -1L, 1L << 32, Long.MIN_VALUE};
    private static final int[] GAS = {100000, 100000, 100000, 30000, 22100, 22099, 20000, 19999, 5000,
        4999, 2900, 2899, 2301, 2300, 0, -1};

    public static void main(String[] args) {
        Check check = new Check();
        for (int run = 0; run < RUNS; run++) {
            mixedRun(check, run, new Random(run));
        }
        check.end();
    }

    private static void mixedRun(Check check, int run, Random random) {
        StorageCosts x = new StorageCosts();
        Model model = new Model();
        int places = run % 3 == 0 ? 64 : 1 + random.nextInt(4);
        int openness = 1 + random.nextInt(6);
        for (int i = 0; i < CALLS; i++) {
            mixedCall(check, "run " + run + ", call " + i, x, model, random, places, openness);
        }
    }

    private static void mixedCall(Check check, String at, StorageCosts x, Model model, Random random,
            int places, int openness) {
        int o = random.nextInt(60) == 0 ? random.nextInt(8) - 2 : random.nextInt(4);
        int p = random.nextInt(60) == 0 ? random.nextInt(80) - 8 : random.nextInt(places);
        long v = VALUES[random.nextInt(VALUES.length)];
        int gas = GAS[random.nextInt(GAS.length)];
        boolean flag = random.nextBoolean();
        int what = random.nextInt(40) == 0 ? random.nextInt(9) - 2 : random.nextInt(4);
        int kind = random.nextInt(20 + openness);
        if (kind >= 20) {
            same(check, at + " open", model::open, x::open);
        } else if (kind < 8) {
            same(check, at + " store", () -> model.store(o, p, v, gas), () -> x.store(o, p, v, gas));
        } else if (kind < 10) {
            same(check, at + " load", () -> model.load(o, p), () -> x.load(o, p));
        } else if (kind < 12) {
            same(check, at + " close", () -> model.close(flag), () -> x.close(flag));
        } else if (kind < 14) {
            same(check, at + " held", () -> model.held(o, p, flag), () -> x.held(o, p, flag));
        } else if (kind < 16) {
            same(check, at + " touched", () -> model.touched(o, p), () -> x.touched(o, p));
        } else if (kind < 19 || random.nextInt(3) != 0) {
            same(check, at + " count", () -> model.count(what), () -> x.count(what));
        } else {
            same(check, at + " begin", model::begin, x::begin);
        }
    }

    private static void same(Check check, String what, Supplier<Object> want, Supplier<Object> got) {
        check.due(what, Check.outcome(want), Check.outcome(got));
    }
}
