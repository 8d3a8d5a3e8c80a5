import java.util.ArrayList;
import java.util.List;

/**
 * What can be told of an object from outside: what the reading calls show of it, and what they show after four
 * futures. These bring to light what no reading call shows: the next serial, id and numbers, SENT, which slot is pinned
 * and for how long, which node crashed, and, as far as messages in flight ask for them, LAST, FIRST, the pass that is
 * owed and the replies that are kept.
 */
final class Futures {
    private static final int MOST_IN_FLIGHT = 32;
    private static final List<List<Call>> ALL = List.of(time(), oldestFirst(), newestFirst(), newThings());

    private Futures() {
    }

    static List<String> of(List<Call> before) {
        List<String> seen = new ArrayList<>(View.of(new Behind(before)));
        for (List<Call> future : ALL) {
            Real subject = Behind.after(before);
            for (Call call : future) {
                seen.add(call + " answers " + subject.answer(call));
            }
            List<Call> both = new ArrayList<>(before);
            both.addAll(future);
            seen.addAll(View.of(new Behind(both)));
        }
        return seen;
    }

    private static void emptyFlight(List<Call> calls) {
        for (int i = 0; i < MOST_IN_FLIGHT; i++) {
            calls.add(new Call("lose", 0));
        }
    }

    private static List<Call> time() {
        List<Call> calls = new ArrayList<>();
        emptyFlight(calls);
        for (int i = 0; i < 25; i++) {
            calls.add(new Call("tick", 1));
            for (int node = 0; node < 4; node++) {
                calls.add(new Call("pins", node));
            }
        }
        return calls;
    }

    private static List<Call> oldestFirst() {
        List<Call> calls = new ArrayList<>();
        for (int i = 0; i < 2 * MOST_IN_FLIGHT; i++) {
            calls.add(new Call("deliver", 0));
        }
        return calls;
    }

    /** Each message comes to its receiver, and what is sent then stays in flight. */
    private static List<Call> newestFirst() {
        List<Call> calls = new ArrayList<>();
        for (int k = MOST_IN_FLIGHT - 1; k >= 0; k--) {
            calls.add(new Call("deliver", k));
        }
        return calls;
    }

    private static List<Call> newThings() {
        List<Call> calls = new ArrayList<>();
        emptyFlight(calls);
        for (int node = 0; node < 4; node++) {
            int next = (node + 1) % 4;
            for (int root = 0; root < 3; root++) {
                calls.add(new Call("call", node, root, 1));
                calls.add(new Call("pass", node, root, next, root));
            }
            calls.add(new Call("drop", node, 2));
            calls.add(new Call("collect", node));
            calls.add(new Call("make", node, 2));
            calls.add(new Call("pass", node, 2, next, 2));
        }
        return calls;
    }
}
