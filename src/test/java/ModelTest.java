import java.util.ArrayList;
import java.util.Arrays;
import java.util.List;
import java.util.Random;
import java.util.TreeMap;

/**
 * All promises: long runs of calls, drawn with fixed seeds, on the program and on PlainModel side by side. Short runs
 * end with a look at everything; long ones read now and then, and come to the document's 512th call.
 */
public final class ModelTest {
    private static final int SHORT_RUNS = 12000;
    private static final int LONG_RUNS = 6000;
    private static final int MOST_CALLS = 512;
    private static final int MOST_IN_ONE_CHANGE = 16;
    private static final int ENOUGH = 200;
    private static final int[] ODD = {-2, -1, 3, 4, 8, 13, 32, Integer.MAX_VALUE, Integer.MIN_VALUE};
    private static final String[] READS = {"flight", "message", "root", "slot", "listing", "pins", "outcome"};

    private final Random random;
    private final Subject real = new Real();
    private final Subject model = new PlainModel();
    private final List<Call> done = new ArrayList<>();
    private final TreeMap<String, Integer> seen;
    private final int[] weights = new int[14];
    private final boolean oldestFirst;
    private final int nodesInUse;
    private int clock = 0;

    private ModelTest(long seed, TreeMap<String, Integer> counts) {
        random = new Random(seed);
        seen = counts;
        oldestFirst = random.nextInt(3) == 0;
        nodesInUse = 2 + random.nextInt(3);
        int[] usual = {6, 5, 4, 6, 14, 12, 40, 4, 5, 10, 6, 0, 1, 1};
        for (int i = 0; i < weights.length; i++) {
            weights[i] = usual[i] * (1 + random.nextInt(8));
        }
        weights[11] = random.nextInt(4) == 0 ? 1 : 0;
    }

    public static void main(String[] args) {
        TreeMap<String, Integer> counts = new TreeMap<>();
        int wrong = 0;
        for (int i = 0; i < SHORT_RUNS + LONG_RUNS && wrong < 3; i++) {
            ModelTest test = new ModelTest(i, counts);
            boolean ok = i < SHORT_RUNS ? test.shortRun() : test.longRun();
            wrong += ok ? 0 : 1;
        }
        System.out.println(SHORT_RUNS + LONG_RUNS + " runs; messages that came: " + counts);
        for (int kind = 0; kind < 9; kind++) {
            if (counts.getOrDefault(kind + " kept", 0) < ENOUGH || counts.getOrDefault(kind + " dropped", 0) < ENOUGH) {
                System.out.println("too few messages of kind " + kind + " came or were dropped: the runs are too poor");
                wrong++;
            }
        }
        if (wrong != 0) {
            System.exit(1);
        }
    }

    private boolean shortRun() {
        int calls = 1 + random.nextInt(160);
        for (int i = 0; i < calls && done.size() < MOST_CALLS - MOST_IN_ONE_CHANGE; i++) {
            if (!change()) {
                return false;
            }
        }
        List<String> got = View.of(new Behind(done));
        List<String> want = View.of(model);
        if (!got.equals(want)) {
            System.out.println("after " + done + "\n  shows " + got + "\n  due is " + want);
            return false;
        }
        return true;
    }

    private boolean longRun() {
        while (done.size() < MOST_CALLS - MOST_IN_ONE_CHANGE) {
            if (!(random.nextInt(3) == 0 ? read() : change())) {
                return false;
            }
        }
        while (done.size() < MOST_CALLS) {
            if (!read()) {
                return false;
            }
        }
        return true;
    }

    private boolean both(String name, int... a) {
        String kind = name.equals("deliver") ? String.valueOf(model.answer("message", a[0], 0)) : "";
        int want = model.answer(name, a);
        int got = real.answer(name, a);
        done.add(new Call(name, a));
        clock += name.equals("tick") && want == 1 ? a[0] : 0;
        if (!kind.isEmpty() && want >= 0) {
            seen.merge(kind + (want == 1 ? " kept" : " dropped"), 1, Integer::sum);
        }
        if (got != want) {
            System.out.println("after " + done + "\n  answered " + got + ", due is " + want);
        }
        return got == want;
    }

    private boolean change() {
        int node = below(nodesInUse);
        switch (draw()) {
            case 0: return both("make", node, below(3));
            case 1: return both("link", node, below(3), below(2), random.nextInt(4) == 0 ? -1 : below(3));
            case 2: return both("fetch", node, below(3), below(2), below(3));
            case 3: return both("drop", node, below(3));
            case 4: return both("pass", node, below(3), below(nodesInUse), below(3));
            case 5: return both("call", node, root(node), random.nextInt() >> random.nextInt(32));
            case 6: return both("deliver", place());
            case 7: return both("lose", place());
            case 8: return both("copy", place());
            case 9: return both("tick", 1 + below(random.nextBoolean() ? 4 : 12));
            case 10: return both("collect", node);
            case 11: return both("crash", node);
            case 12: return lateCall(node);
            default: return latePass(node, below(nodesInUse));
        }
    }

    /**
     * A call just before its surrogate is STALE, an owner that frees the object, and the CALL that comes too late:
     * chance alone hardly meets it.
     */
    private boolean lateCall(int node) {
        int root = root(node);
        int k = model.answer("root", node, root);
        if (model.answer("slot", node, k, 2) != 1 || model.answer("slot", node, k, 0) != 2) {
            return true;
        }
        int owner = model.answer("slot", node, k, 4);
        boolean ok = true;
        for (int left = model.answer("slot", node, k, 3) - clock - 1; ok && left > 0; left -= 12) {
            ok = both("tick", Math.min(left, 12));
        }
        ok = ok && both("call", node, root, 1);
        int callPlace = newestPlace();
        ok = ok && dropAll(owner) && both("tick", 1) && both("collect", owner) && both("deliver", callPlace);
        return ok && both("deliver", random.nextInt(3) == 0 ? place() : newestPlace());
    }

    /** A PASS that comes when its pin has ended and the owner has freed the object, so that the DIRTY meets GONE. */
    private boolean latePass(int node, int to) {
        int root = below(3);
        if (model.answer("slot", node, model.answer("root", node, root), 0) != 1) {
            return true;
        }
        boolean ok = both("pass", node, root, to, below(3));
        int passPlace = newestPlace();
        ok = ok && dropAll(node) && both("tick", 12) && both("tick", 12) && both("collect", node);
        ok = ok && both("deliver", passPlace) && both("deliver", newestPlace());
        return ok && (random.nextInt(3) == 0 || both("copy", newestPlace()))
            && both("deliver", random.nextInt(3) == 0 ? place() : newestPlace());
    }

    private boolean dropAll(int node) {
        return both("drop", node, 0) && both("drop", node, 1) && both("drop", node, 2);
    }

    private int newestPlace() {
        return model.answer("flight") - 1;
    }

    private boolean read() {
        String name = READS[random.nextInt(READS.length)];
        switch (name) {
            case "flight": return both(name);
            case "message": return both(name, place(), below(6));
            case "root": return both(name, below(4), below(3));
            case "slot": return both(name, below(4), below(8), below(5));
            case "listing": return both(name, below(4), random.nextInt(2) == 0 ? below(2) : below(8), below(4));
            case "pins": return both(name, below(4));
            default: return both(name, below(4), below(3));
        }
    }

    private int draw() {
        int at = random.nextInt(Arrays.stream(weights).sum());
        int i = 0;
        while (at >= weights[i]) {
            at -= weights[i];
            i++;
        }
        return i;
    }

    private int place() {
        int count = Math.max(1, model.answer("flight"));
        return oldestFirst && random.nextInt(4) != 0 ? 0 : below(count);
    }

    private int below(int bound) {
        return random.nextInt(60) == 0 ? odd() : random.nextInt(bound);
    }

    /** Mostly a root with a surrogate, if one of three looks finds it. */
    private int root(int node) {
        int root = below(3);
        for (int i = 0; i < 3 && model.answer("slot", node, model.answer("root", node, root), 0) != 2; i++) {
            root = below(3);
        }
        return root;
    }

    private int odd() {
        return ODD[random.nextInt(ODD.length)];
    }
}
