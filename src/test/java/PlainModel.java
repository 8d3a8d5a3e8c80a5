import java.util.ArrayList;
import java.util.Arrays;
import java.util.HashMap;
import java.util.HashSet;
import java.util.List;
import java.util.Map;
import java.util.Set;

/**
 * The document once more, written otherwise: references instead of slot numbers, and what ends with the clock is
 * ended when the clock moves instead of being compared with it at each reading.
 */
final class PlainModel implements Subject {
    private enum State { PENDING, GOOD, STALE }

    private static class Thing {
        int serial;
        int owner;
    }

    private static final class Obj extends Thing {
        int value;
        final Thing[] fields = new Thing[2];
        final Map<Integer, Integer> last = new HashMap<>();
        final Map<Integer, Integer> left = new HashMap<>();
    }

    private static final class Surrogate extends Thing {
        int first;
        int sinceSent;
        int expiry;
        State state;
        int[] owes;
    }

    private static final class Node {
        final Thing[] slots = new Thing[8];
        final Thing[] roots = new Thing[3];
        final Map<Integer, Thing> pinned = new HashMap<>();
        final Map<Integer, Integer> pinLeft = new HashMap<>();
        final Map<Integer, int[]> replies = new HashMap<>();
        boolean crashed;
        int dirties;
        int calls;
        int callState;
        Surrogate callOf;
        int callAmount;
        int sinceCall;
        int result;

        int placeOf(Thing thing) {
            return thing == null ? -1 : Arrays.asList(slots).indexOf(thing);
        }

        Thing find(int serial) {
            for (Thing thing : slots) {
                if (thing != null && thing.serial == serial) {
                    return thing;
                }
            }
            return null;
        }

        boolean put(Thing thing) {
            int k = Arrays.asList(slots).indexOf(null);
            if (k >= 0) {
                slots[k] = thing;
            }
            return k >= 0;
        }
    }

    private final Node[] nodes = {new Node(), new Node(), new Node(), new Node()};
    private final List<int[]> flight = new ArrayList<>();
    private int clock;
    private int serials;
    private int passes;

    @Override
    public int answer(String name, int... a) {
        switch (name) {
            case "deliver": return a[0] < 0 || a[0] >= flight.size() ? -1 : come(flight.remove(a[0])) ? 1 : 0;
            case "lose": return a[0] >= 0 && a[0] < flight.size() && flight.remove(a[0]) != null ? 1 : 0;
            case "copy": return copy(a[0]);
            case "tick": return tick(a[0]);
            case "flight": return flight.size();
            case "message":
                return a[0] < 0 || a[0] >= flight.size() || a[1] < 0 || a[1] > 5 ? -1 : flight.get(a[0])[a[1]];
            default: break;
        }
        int refused = YES_OR_NO.contains(name) ? 0 : -1;
        if (a[0] < 0 || a[0] > 3 || !READING.contains(name) && nodes[a[0]].crashed) {
            return refused;
        }
        if (Set.of("collect", "crash", "pins").contains(name)) {
            return ofNode(name, a[0]);
        }
        if (Set.of("slot", "listing", "outcome").contains(name)) {
            return read(name, nodes[a[0]], a);
        }
        return a[1] < 0 || a[1] > 2 ? refused : ofRoot(name, nodes[a[0]], a);
    }

    private int ofNode(String name, int node) {
        switch (name) {
            case "collect": return collect(node);
            case "pins": return nodes[node].pinned.size();
            default:
                nodes[node].crashed = true;
                return 1;
        }
    }

    private int ofRoot(String name, Node node, int[] a) {
        Thing thing = node.roots[a[1]];
        switch (name) {
            case "make": return make(node, a[0], a[1]);
            case "drop":
                node.roots[a[1]] = null;
                return 1;
            case "root": return node.placeOf(thing);
            case "link":
                if (a[2] < 0 || a[2] > 1 || a[3] < -1 || a[3] > 2 || !(thing instanceof Obj)) {
                    return 0;
                }
                ((Obj) thing).fields[a[2]] = a[3] == -1 ? null : node.roots[a[3]];
                return 1;
            case "fetch":
                if (a[2] < 0 || a[2] > 1 || a[3] < 0 || a[3] > 2 || !(thing instanceof Obj)) {
                    return 0;
                }
                node.roots[a[3]] = ((Obj) thing).fields[a[2]];
                return 1;
            case "pass": return pass(node, thing, a);
            case "call": return call(node, thing, a);
            default: throw new IllegalArgumentException(name);
        }
    }

    private int make(Node node, int id, int root) {
        Obj obj = new Obj();
        obj.serial = serials;
        obj.owner = id;
        if (!node.put(obj)) {
            return -1;
        }
        node.roots[root] = obj;
        return serials++;
    }

    private int pass(Node node, Thing thing, int[] a) {
        if (a[2] < 0 || a[2] > 3 || a[2] == a[0] || a[3] < 0 || a[3] > 2 || thing == null || node.pinned.size() >= 6) {
            return -1;
        }
        if (thing instanceof Surrogate s && s.state != State.GOOD) {
            return -2;
        }
        node.pinned.put(passes, thing);
        node.pinLeft.put(passes, 24);
        send(0, a[0], a[2], thing.serial, passes, 4 * a[3] + thing.owner);
        return passes++;
    }

    private int call(Node node, Thing thing, int[] a) {
        if (node.callState == 1 || !(thing instanceof Surrogate)) {
            return -1;
        }
        Surrogate s = (Surrogate) thing;
        if (s.state != State.GOOD) {
            return -2;
        }
        node.callState = 1;
        node.callOf = s;
        node.callAmount = a[2];
        node.sinceCall = 0;
        send(6, a[0], s.owner, s.serial, ++node.calls, a[2]);
        return node.calls;
    }

    private int read(String name, Node node, int[] a) {
        if (name.equals("outcome")) {
            return a[1] < 0 || a[1] > 2 ? -1 : new int[] {node.callState, node.calls, node.result}[a[1]];
        }
        if (a[1] < 0 || a[1] > 7) {
            return -1;
        }
        Thing thing = node.slots[a[1]];
        if (name.equals("listing")) {
            boolean otherNode = a[2] >= 0 && a[2] <= 3 && a[2] != a[0];
            return otherNode && thing instanceof Obj o ? o.left.getOrDefault(a[2], 0) : -1;
        }
        if (a[2] < 0 || a[2] > 4) {
            return -1;
        }
        if (thing instanceof Obj o) {
            return new int[] {1, o.serial, o.value, node.placeOf(o.fields[0]), node.placeOf(o.fields[1])}[a[2]];
        }
        if (thing instanceof Surrogate s) {
            return new int[] {2, s.serial, s.state.ordinal(), s.expiry, s.owner}[a[2]];
        }
        return a[2] == 0 ? 0 : -1;
    }

    private void send(int... message) {
        if (flight.size() < 32) {
            flight.add(message);
        }
    }

    private void sendDirty(int id, Surrogate s) {
        s.sinceSent = 0;
        send(2, id, s.owner, s.serial, ++nodes[id].dirties, clock);
    }

    private int copy(int k) {
        if (k < 0 || k >= flight.size() || flight.size() >= 32) {
            return 0;
        }
        flight.add(flight.get(k).clone());
        return 1;
    }

    private int tick(int n) {
        if (n < 1 || n > 12) {
            return 0;
        }
        for (int i = 0; i < n; i++) {
            clock++;
            for (Node node : nodes) {
                age(node);
            }
            for (int id = 0; id < 4; id++) {
                if (!nodes[id].crashed) {
                    sendDue(id, nodes[id]);
                }
            }
        }
        return 1;
    }

    private void age(Node node) {
        node.pinLeft.replaceAll((id, left) -> left - 1);
        node.pinLeft.values().removeIf(left -> left == 0);
        node.pinned.keySet().retainAll(node.pinLeft.keySet());
        node.sinceCall++;
        for (Thing thing : node.slots) {
            if (thing instanceof Obj o) {
                o.left.replaceAll((client, left) -> left - 1);
                o.left.values().removeIf(left -> left == 0);
            } else if (thing instanceof Surrogate s) {
                s.sinceSent++;
                if (s.expiry == clock) {
                    s.state = State.STALE;
                }
            }
        }
    }

    private void sendDue(int id, Node node) {
        for (Thing thing : node.slots) {
            if (thing instanceof Surrogate s && s.state != State.STALE && s.sinceSent >= 6) {
                sendDirty(id, s);
            }
        }
        if (node.callState == 1 && node.sinceCall >= 3) {
            if (node.callOf.state == State.STALE) {
                node.callState = 3;
            } else {
                node.sinceCall = 0;
                send(6, id, node.callOf.owner, node.callOf.serial, node.calls, node.callAmount);
            }
        }
    }

    private int collect(int id) {
        Node node = nodes[id];
        Set<Thing> kept = new HashSet<>();
        for (Thing thing : node.roots) {
            reach(thing, kept);
        }
        for (Thing thing : node.pinned.values()) {
            reach(thing, kept);
        }
        if (node.callState == 1) {
            reach(node.callOf, kept);
        }
        for (Thing thing : node.slots) {
            if (thing instanceof Obj o && !o.left.isEmpty()) {
                reach(thing, kept);
            }
        }
        int freed = 0;
        for (int k = 0; k < 8; k++) {
            Thing thing = node.slots[k];
            if (thing != null && !kept.contains(thing)) {
                freed++;
                node.slots[k] = null;
                if (thing instanceof Surrogate s) {
                    send(5, id, s.owner, s.serial, ++node.dirties, 0);
                }
            }
        }
        return freed;
    }

    private void reach(Thing thing, Set<Thing> kept) {
        if (thing != null && kept.add(thing) && thing instanceof Obj o) {
            reach(o.fields[0], kept);
            reach(o.fields[1], kept);
        }
    }

    private boolean come(int[] m) {
        Node node = nodes[m[2]];
        if (node.crashed) {
            return false;
        }
        Thing thing = node.find(m[3]);
        switch (m[0]) {
            case 0: return passComes(node, thing, m);
            case 1:
                node.pinLeft.remove(m[4]);
                return node.pinned.remove(m[4]) != null;
            case 2: return dirtyComes((Obj) thing, m);
            case 3:
            case 4: return listedOrGoneComes((Surrogate) thing, m);
            case 5:
                if (thing == null || m[4] <= ((Obj) thing).last.getOrDefault(m[1], 0)) {
                    return false;
                }
                ((Obj) thing).last.put(m[1], m[4]);
                ((Obj) thing).left.remove(m[1]);
                return true;
            case 6: return callComes(node, (Obj) thing, m);
            default:
                if (node.callState != 1 || node.calls != m[4]) {
                    return false;
                }
                node.callState = m[0] == 7 ? 2 : 3;
                node.result = m[0] == 7 ? m[5] : node.result;
                return true;
        }
    }

    private boolean passComes(Node node, Thing found, int[] m) {
        Thing thing = found;
        if (thing == null) {
            Surrogate s = new Surrogate();
            s.serial = m[3];
            s.owner = m[5] & 3;
            s.state = State.STALE;
            if (s.owner == m[2] || !node.put(s)) {
                return false;
            }
            thing = s;
        }
        node.roots[m[5] >> 2] = thing;
        if (thing instanceof Obj || ((Surrogate) thing).state == State.GOOD) {
            send(1, m[2], m[1], m[3], m[4], 0);
            return true;
        }
        Surrogate s = (Surrogate) thing;
        s.owes = new int[] {m[1], m[4]};
        if (s.state == State.STALE) {
            s.state = State.PENDING;
            s.expiry = clock + 24;
            sendDirty(m[2], s);
            s.first = node.dirties;
        }
        return true;
    }

    private boolean dirtyComes(Obj obj, int[] m) {
        if (obj == null) {
            send(4, m[2], m[1], m[3], m[4], m[5]);
            return true;
        }
        boolean newer = m[4] > obj.last.getOrDefault(m[1], 0);
        if (newer) {
            obj.last.put(m[1], m[4]);
            obj.left.put(m[1], 24);
        }
        if (newer || obj.left.containsKey(m[1])) {
            send(3, m[2], m[1], m[3], m[4], m[5]);
            return true;
        }
        return false;
    }

    private boolean listedOrGoneComes(Surrogate s, int[] m) {
        if (s == null || s.state == State.STALE || m[4] < s.first) {
            return false;
        }
        if (m[0] == 4) {
            s.expiry = clock;
            s.state = State.STALE;
            return true;
        }
        if (m[5] + 24 > s.expiry) {
            s.expiry = m[5] + 24;
        }
        if (s.state == State.PENDING) {
            s.state = State.GOOD;
            send(1, m[2], s.owes[0], s.serial, s.owes[1], 0);
            s.owes = null;
        }
        return true;
    }

    private boolean callComes(Node node, Obj obj, int[] m) {
        int[] kept = node.replies.get(m[1]);
        int done = kept == null ? 0 : kept[4];
        if (m[4] < done) {
            return false;
        }
        if (m[4] > done) {
            if (obj != null) {
                obj.value += m[5];
            }
            kept = new int[] {obj == null ? 8 : 7, m[2], m[1], m[3], m[4], obj == null ? 0 : obj.value};
            node.replies.put(m[1], kept);
        }
        send(kept.clone());
        return true;
    }
}
