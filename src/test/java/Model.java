import java.util.ArrayDeque;
import java.util.Deque;
import java.util.HashMap;
import java.util.HashSet;
import java.util.Map;
import java.util.Set;

/**
 * The document's words once more, with other means than the program's: what is changed
 * is written down and undone backwards when a message is taken back.
 */
final class Model {
    private final Map<Integer, Long> first = new HashMap<>();
    private final Map<Integer, Long> now = new HashMap<>();
    private final Set<Integer> touched = new HashSet<>();
    private final Deque<Deque<Runnable>> undo = new ArrayDeque<>();
    private int refund = 0;

    int begin() {
        first.clear();
        first.putAll(now);
        touched.clear();
        undo.clear();
        refund = 0;
        return notZero();
    }

    int open() {
        if (undo.size() == 30) {
            throw new IndexOutOfBoundsException();
        }
        undo.push(new ArrayDeque<>());
        return undo.size();
    }

    int close(boolean good) {
        if (undo.isEmpty()) {
            throw new IllegalStateException();
        }
        Deque<Runnable> steps = undo.pop();
        if (!good) {
            steps.forEach(Runnable::run);
        } else if (!undo.isEmpty()) {
            steps.descendingIterator().forEachRemaining(undo.peek()::push);
        }
        return undo.size();
    }

    int load(int o, int p) {
        int key = key(o, p);
        boolean warm = touched.contains(key);
        touch(key);
        return warm ? 100 : 2100;
    }

    int store(int o, int p, long b, int gas) {
        int key = key(o, p);
        long f = first.getOrDefault(key, 0L);
        long c = now.getOrDefault(key, 0L);
        int cost = touched.contains(key) ? 0 : 2100;
        int more = 0;
        if (b == c) {
            cost += 100;
        } else if (f == c) {
            if (f == 0) {
                cost += 20000;
            } else {
                cost += 2900;
                more += b == 0 ? 15000 : 0;
            }
        } else {
            cost += 100;
            more -= f != 0 && c == 0 ? 15000 : 0;
            more += f != 0 && b == 0 ? 15000 : 0;
            more += f == b && f == 0 ? 19900 : 0;
            more += f == b && f != 0 ? 2800 : 0;
        }
        if (cost > gas || gas <= 2300) {
            throw new IllegalStateException();
        }
        touch(key);
        write(key, c, b, more);
        return cost;
    }

    long held(int o, int p, boolean atFirst) {
        return (atFirst ? first : now).getOrDefault(key(o, p), 0L);
    }

    boolean touched(int o, int p) {
        return touched.contains(key(o, p));
    }

    int count(int what) {
        return switch (what) {
            case 0 -> refund;
            case 1 -> touched.size();
            case 2 -> undo.size();
            case 3 -> notZero();
            default -> throw new IllegalArgumentException();
        };
    }

    private static int key(int o, int p) {
        if (o < 0 || o > 3 || p < 0 || p > 63) {
            throw new IllegalArgumentException();
        }
        return 100 * o + p;
    }

    private void touch(int key) {
        if (touched.add(key)) {
            remember(() -> touched.remove(key));
        }
    }

    private void write(int key, long from, long to, int more) {
        now.put(key, to);
        refund += more;
        remember(() -> {
            now.put(key, from);
            refund -= more;
        });
    }

    private void remember(Runnable step) {
        if (!undo.isEmpty()) {
            undo.peek().push(step);
        }
    }

    private int notZero() {
        return (int) now.values().stream().filter(v -> v != 0).count();
    }
}
