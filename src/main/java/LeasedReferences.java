/**
 * References between objects of four nodes that do not trust their network: each object's owner
 * lists who refers to it, for a time, and frees what nobody can reach any more.
 *
 * All rows are made in the constructor and used again, so that no later call makes an object.
 */
public final class LeasedReferences {
    public static final int NONE = -1;
    public static final int STALE = -2;

    private static final int NODES = 4;
    private static final int SLOTS = 8;
    private static final int ROOTS = 3;
    private static final int FIELDS = 2;
    private static final int MOST_PINS = 6;
    private static final int MOST_IN_FLIGHT = 32;
    private static final int MOST_TICKS = 12;

    private static final int LEASE = 24;
    private static final int DIRTY_PAUSE = 6;
    private static final int CALL_PAUSE = 3;

    private static final int PASS = 0;
    private static final int TAKEN = 1;
    private static final int DIRTY = 2;
    private static final int LISTED = 3;
    private static final int GONE = 4;
    private static final int CLEAN = 5;
    private static final int CALL = 6;
    private static final int ANSWER = 7;
    private static final int NOOBJECT = 8;

    private static final int EMPTY = 0;
    private static final int OBJECT = 1;
    private static final int SURROGATE = 2;

    private static final int IS_PENDING = 0;
    private static final int IS_GOOD = 1;
    private static final int IS_STALE = 2;

    private static final int NO_CALL = 0;
    private static final int WAITING = 1;
    private static final int DONE = 2;
    private static final int FAILED = 3;

    private final Network network;
    private final Node[] nodes;
    private final Message taken;
    private int nextSerial;
    private int nextPass;

    public LeasedReferences() {
        Network shared = new Network();
        network = shared;
        nodes = new Node[NODES];
        for (int i = 0; i < NODES; i++) {
            nodes[i] = new Node(i, shared);
        }
        taken = new Message();
        nextSerial = 0;
        nextPass = 0;
    }

    public int make(int node, int root) {
        if (!acts(node) || !isRoot(root)) {
            return NONE;
        }
        Node at = nodes[node];
        int k = at.leastEmptySlot();
        if (k == NONE) {
            return NONE;
        }
        int serial = nextSerial;
        nextSerial++;
        at.slots[k].holdNewObject(serial);
        at.roots[root] = k;
        return serial;
    }

    public boolean link(int node, int root, int field, int from) {
        if (!acts(node) || !isRoot(root) || !isField(field)) {
            return false;
        }
        if (from != NONE && !isRoot(from)) {
            return false;
        }
        Node at = nodes[node];
        if (!at.rootHolds(root, OBJECT)) {
            return false;
        }
        at.slots[at.roots[root]].fields[field] = from == NONE ? NONE : at.roots[from];
        return true;
    }

    public boolean fetch(int node, int root, int field, int into) {
        if (!acts(node) || !isRoot(root) || !isField(field) || !isRoot(into)) {
            return false;
        }
        Node at = nodes[node];
        if (!at.rootHolds(root, OBJECT)) {
            return false;
        }
        at.roots[into] = at.slots[at.roots[root]].fields[field];
        return true;
    }

    public boolean drop(int node, int root) {
        if (!acts(node) || !isRoot(root)) {
            return false;
        }
        nodes[node].roots[root] = NONE;
        return true;
    }

    public int pass(int node, int root, int to, int into) {
        if (!acts(node) || !isRoot(root) || !isNode(to) || !isRoot(into) || to == node) {
            return NONE;
        }
        Node at = nodes[node];
        if (at.rootHolds(root, EMPTY) || at.livePins() == MOST_PINS) {
            return NONE;
        }
        if (at.rootHolds(root, SURROGATE) && !at.rootIsGood(root)) {
            return STALE;
        }
        int id = nextPass;
        nextPass++;
        at.sendPass(root, to, into, id);
        return id;
    }

    public int call(int node, int root, int amount) {
        if (!acts(node) || !isRoot(root)) {
            return NONE;
        }
        Node at = nodes[node];
        if (at.request.state == WAITING || !at.rootHolds(root, SURROGATE)) {
            return NONE;
        }
        if (!at.rootIsGood(root)) {
            return STALE;
        }
        at.startRequest(at.roots[root], amount);
        return at.request.number;
    }

    public int deliver(int k) {
        if (!network.hasPlace(k)) {
            return NONE;
        }
        // What the receiver sends may be written on the row that was in flight, so it is read from another.
        taken.become(network.messages[k]);
        network.takeOut(k);
        return nodes[taken.receiver].receive(taken) ? 1 : 0;
    }

    public boolean lose(int k) {
        if (!network.hasPlace(k)) {
            return false;
        }
        network.takeOut(k);
        return true;
    }

    public boolean copy(int k) {
        if (!network.hasPlace(k) || network.count == MOST_IN_FLIGHT) {
            return false;
        }
        network.sendAgain(network.messages[k]);
        return true;
    }

    public boolean tick(int n) {
        if (n < 1 || n > MOST_TICKS) {
            return false;
        }
        for (int i = 0; i < n; i++) {
            network.clock++;
            for (int node = 0; node < NODES; node++) {
                nodes[node].sendWhatIsDue();
            }
        }
        return true;
    }

    public int collect(int node) {
        return acts(node) ? nodes[node].emptyUnkeptSlots() : NONE;
    }

    public boolean crash(int node) {
        if (!acts(node)) {
            return false;
        }
        nodes[node].crashed = true;
        return true;
    }

    public int flight() {
        return network.count;
    }

    public int message(int k, int which) {
        return network.hasPlace(k) ? network.messages[k].part(which) : NONE;
    }

    public int root(int node, int root) {
        return isNode(node) && isRoot(root) ? nodes[node].roots[root] : NONE;
    }

    public int slot(int node, int k, int which) {
        return isNode(node) && isSlot(k) ? nodes[node].slots[k].part(which, network.clock) : NONE;
    }

    public int listing(int node, int k, int client) {
        if (!isNode(node) || !isSlot(k) || !isNode(client) || client == node) {
            return NONE;
        }
        Slot slot = nodes[node].slots[k];
        return slot.holds == OBJECT ? Math.max(0, slot.listedUntil[client] - network.clock) : NONE;
    }

    public int pins(int node) {
        return isNode(node) ? nodes[node].livePins() : NONE;
    }

    public int outcome(int node, int which) {
        return isNode(node) ? nodes[node].request.part(which) : NONE;
    }

    private boolean acts(int node) {
        return isNode(node) && !nodes[node].crashed;
    }

    private static boolean isNode(int node) {
        return node >= 0 && node < NODES;
    }

    private static boolean isRoot(int root) {
        return root >= 0 && root < ROOTS;
    }

    private static boolean isSlot(int k) {
        return k >= 0 && k < SLOTS;
    }

    private static boolean isField(int field) {
        return field >= 0 && field < FIELDS;
    }

    private static final class Message {
        int kind;
        int sender;
        int receiver;
        int serial;
        int number;
        int extra;

        void write(int newKind, int from, int to, int newSerial, int newNumber, int newExtra) {
            kind = newKind;
            sender = from;
            receiver = to;
            serial = newSerial;
            number = newNumber;
            extra = newExtra;
        }

        void become(Message other) {
            write(other.kind, other.sender, other.receiver, other.serial, other.number, other.extra);
        }

        int part(int which) {
            switch (which) {
                case 0: return kind;
                case 1: return sender;
                case 2: return receiver;
                case 3: return serial;
                case 4: return number;
                case 5: return extra;
                default: return NONE;
            }
        }
    }

    /** What the nodes share: the clock, and the flight with its oldest message first. */
    private static final class Network {
        int clock;
        int count;
        final Message[] messages;

        Network() {
            clock = 0;
            count = 0;
            messages = new Message[MOST_IN_FLIGHT];
            for (int i = 0; i < MOST_IN_FLIGHT; i++) {
                messages[i] = new Message();
            }
        }

        boolean hasPlace(int k) {
            return k >= 0 && k < count;
        }

        void send(int kind, int from, int to, int serial, int number, int extra) {
            if (count < MOST_IN_FLIGHT) {
                messages[count].write(kind, from, to, serial, number, extra);
                count++;
            }
        }

        void sendAgain(Message m) {
            send(m.kind, m.sender, m.receiver, m.serial, m.number, m.extra);
        }

        void takeOut(int k) {
            // The row goes behind the flight, where the next message that is sent is written on it.
            Message row = messages[k];
            for (int i = k + 1; i < count; i++) {
                messages[i - 1] = messages[i];
            }
            count--;
            messages[count] = row;
        }
    }

    /** A slot with room for either thing that it can hold. */
    private static final class Slot {
        int holds;
        int serial;

        // of an object
        int value;
        final int[] fields;
        final int[] last;
        final int[] listedUntil;

        // of a surrogate
        int owner;
        int first;
        int sent;
        int expiry;
        boolean confirmed;
        int owedSender;
        int owedId;

        Slot() {
            holds = EMPTY;
            fields = new int[FIELDS];
            last = new int[NODES];
            listedUntil = new int[NODES];
        }

        void holdNewObject(int newSerial) {
            holds = OBJECT;
            serial = newSerial;
            value = 0;
            for (int i = 0; i < FIELDS; i++) {
                fields[i] = NONE;
            }
            for (int i = 0; i < NODES; i++) {
                last[i] = 0;
                listedUntil[i] = 0;
            }
        }

        /** The new surrogate is STALE, since the clock came to 0 long ago, until it becomes PENDING. */
        void holdNewSurrogate(int newSerial, int newOwner) {
            holds = SURROGATE;
            serial = newSerial;
            owner = newOwner;
            expiry = 0;
        }

        int state(int clock) {
            if (clock >= expiry) {
                return IS_STALE;
            }
            return confirmed ? IS_GOOD : IS_PENDING;
        }

        boolean isFreshSurrogate(int clock) {
            return holds == SURROGATE && state(clock) != IS_STALE;
        }

        void owe(Message pass) {
            owedSender = pass.sender;
            owedId = pass.number;
        }

        boolean isListed(int clock) {
            boolean some = false;
            for (int i = 0; i < NODES; i++) {
                some = some || clock < listedUntil[i];
            }
            return holds == OBJECT && some;
        }

        int part(int which, int clock) {
            if (which == 0) {
                return holds;
            }
            if (holds == EMPTY) {
                return NONE;
            }
            boolean object = holds == OBJECT;
            switch (which) {
                case 1: return serial;
                case 2: return object ? value : state(clock);
                case 3: return object ? fields[0] : expiry;
                case 4: return object ? fields[1] : owner;
                default: return NONE;
            }
        }
    }

    private static final class Pin {
        int id;
        int slot;
        int end;
    }

    /** The call of a node; it keeps the result of the latest one that was DONE beside the newest one. */
    private static final class Request {
        int state;
        int number;
        int slot;
        int amount;
        int sent;
        int result;

        int part(int which) {
            switch (which) {
                case 0: return state;
                case 1: return number;
                case 2: return result;
                default: return NONE;
            }
        }
    }

    private static final class Node {
        final int id;
        final Network network;
        final Slot[] slots;
        final int[] roots;
        final Pin[] pins;
        final Request request;
        final Message[] replies;
        final boolean[] kept;
        int latestNumber;
        boolean crashed;

        Node(int ownId, Network shared) {
            id = ownId;
            network = shared;
            slots = new Slot[SLOTS];
            for (int i = 0; i < SLOTS; i++) {
                slots[i] = new Slot();
            }
            roots = new int[ROOTS];
            for (int i = 0; i < ROOTS; i++) {
                roots[i] = NONE;
            }
            pins = new Pin[MOST_PINS];
            for (int i = 0; i < MOST_PINS; i++) {
                pins[i] = new Pin();
            }
            request = new Request();
            request.state = NO_CALL;
            replies = new Message[NODES];
            for (int i = 0; i < NODES; i++) {
                replies[i] = new Message();
            }
            kept = new boolean[SLOTS];
            latestNumber = 0;
            crashed = false;
        }

        int leastEmptySlot() {
            for (int k = 0; k < SLOTS; k++) {
                if (slots[k].holds == EMPTY) {
                    return k;
                }
            }
            return NONE;
        }

        int slotWith(int serial) {
            for (int k = 0; k < SLOTS; k++) {
                if (slots[k].holds != EMPTY && slots[k].serial == serial) {
                    return k;
                }
            }
            return NONE;
        }

        /** What the root refers to; EMPTY stands for nothing. */
        boolean rootHolds(int root, int what) {
            int k = roots[root];
            return (k == NONE ? EMPTY : slots[k].holds) == what;
        }

        boolean rootIsGood(int root) {
            int k = roots[root];
            return k != NONE && slots[k].holds == SURROGATE && slots[k].state(network.clock) == IS_GOOD;
        }

        boolean isLive(Pin pin) {
            return network.clock < pin.end;
        }

        int livePins() {
            int live = 0;
            for (int i = 0; i < MOST_PINS; i++) {
                if (isLive(pins[i])) {
                    live++;
                }
            }
            return live;
        }

        void sendPass(int root, int to, int into, int pass) {
            int k = roots[root];
            Slot slot = slots[k];
            pinDown(k, pass);
            int owner = slot.holds == OBJECT ? id : slot.owner;
            network.send(PASS, id, to, slot.serial, pass, NODES * into + owner);
        }

        private void pinDown(int k, int pass) {
            for (int i = 0; i < MOST_PINS; i++) {
                Pin pin = pins[i];
                if (!isLive(pin)) {
                    pin.id = pass;
                    pin.slot = k;
                    pin.end = network.clock + LEASE;
                    return;
                }
            }
        }

        void startRequest(int k, int amount) {
            request.state = WAITING;
            request.number++;
            request.slot = k;
            request.amount = amount;
            sendRequest();
        }

        private void sendRequest() {
            Slot slot = slots[request.slot];
            request.sent = network.clock;
            network.send(CALL, id, slot.owner, slot.serial, request.number, request.amount);
        }

        private void sendDirty(Slot surrogate) {
            latestNumber++;
            surrogate.sent = network.clock;
            network.send(DIRTY, id, surrogate.owner, surrogate.serial, latestNumber, network.clock);
        }

        private void sendClean(Slot surrogate) {
            latestNumber++;
            network.send(CLEAN, id, surrogate.owner, surrogate.serial, latestNumber, 0);
        }

        private void becomePending(Slot surrogate, Message pass) {
            surrogate.confirmed = false;
            surrogate.expiry = network.clock + LEASE;
            sendDirty(surrogate);
            surrogate.first = latestNumber;
            surrogate.owe(pass);
        }

        void sendWhatIsDue() {
            if (crashed) {
                return;
            }
            for (int k = 0; k < SLOTS; k++) {
                Slot slot = slots[k];
                if (slot.isFreshSurrogate(network.clock) && network.clock - slot.sent >= DIRTY_PAUSE) {
                    sendDirty(slot);
                }
            }
            if (request.state == WAITING && network.clock - request.sent >= CALL_PAUSE) {
                repeatRequest();
            }
        }

        private void repeatRequest() {
            if (slots[request.slot].isFreshSurrogate(network.clock)) {
                sendRequest();
            } else {
                request.state = FAILED;
            }
        }

        /** Answers whether the message was not dropped. */
        boolean receive(Message m) {
            if (crashed) {
                return false;
            }
            switch (m.kind) {
                case PASS: return receivePass(m);
                case TAKEN: return receiveTaken(m);
                case DIRTY: return receiveDirty(m);
                case LISTED: return receiveListed(m);
                case GONE: return receiveGone(m);
                case CLEAN: return receiveClean(m);
                case CALL: return receiveCall(m);
                case ANSWER: return receiveReply(m);
                case NOOBJECT: return receiveReply(m);
                default: return false;
            }
        }

        private boolean receivePass(Message m) {
            int k = slotWith(m.serial);
            if (k == NONE) {
                int owner = m.extra % NODES;
                k = leastEmptySlot();
                if (owner == id || k == NONE) {
                    return false;
                }
                slots[k].holdNewSurrogate(m.serial, owner);
            }
            roots[m.extra / NODES] = k;
            Slot slot = slots[k];
            int state = slot.holds == OBJECT ? IS_GOOD : slot.state(network.clock);
            if (state == IS_GOOD) {
                network.send(TAKEN, id, m.sender, m.serial, m.number, 0);
            } else if (state == IS_PENDING) {
                slot.owe(m);
            } else {
                becomePending(slot, m);
            }
            return true;
        }

        private boolean receiveTaken(Message m) {
            for (int i = 0; i < MOST_PINS; i++) {
                Pin pin = pins[i];
                if (isLive(pin) && pin.id == m.number) {
                    pin.end = network.clock;
                    return true;
                }
            }
            return false;
        }

        private boolean receiveDirty(Message m) {
            int client = m.sender;
            int k = slotWith(m.serial);
            if (k == NONE) {
                network.send(GONE, id, client, m.serial, m.number, m.extra);
                return true;
            }
            Slot object = slots[k];
            if (m.number > object.last[client]) {
                object.last[client] = m.number;
                object.listedUntil[client] = network.clock + LEASE;
            } else if (network.clock >= object.listedUntil[client]) {
                return false;
            }
            network.send(LISTED, id, client, m.serial, m.number, m.extra);
            return true;
        }

        /** Whether LISTED or GONE is about the surrogate as it is now, not about an earlier life of it. */
        private boolean concerns(Message m, int k) {
            return k != NONE && slots[k].isFreshSurrogate(network.clock) && m.number >= slots[k].first;
        }

        private boolean receiveListed(Message m) {
            int k = slotWith(m.serial);
            if (!concerns(m, k)) {
                return false;
            }
            Slot surrogate = slots[k];
            surrogate.expiry = Math.max(surrogate.expiry, m.extra + LEASE);
            if (!surrogate.confirmed) {
                surrogate.confirmed = true;
                network.send(TAKEN, id, surrogate.owedSender, surrogate.serial, surrogate.owedId, 0);
            }
            return true;
        }

        private boolean receiveGone(Message m) {
            int k = slotWith(m.serial);
            if (!concerns(m, k)) {
                return false;
            }
            slots[k].expiry = network.clock;
            return true;
        }

        private boolean receiveClean(Message m) {
            int k = slotWith(m.serial);
            if (k == NONE || m.number <= slots[k].last[m.sender]) {
                return false;
            }
            slots[k].last[m.sender] = m.number;
            slots[k].listedUntil[m.sender] = network.clock;
            return true;
        }

        private boolean receiveCall(Message m) {
            Message reply = replies[m.sender];
            if (m.number < reply.number) {
                return false;
            }
            if (m.number > reply.number) {
                carryOut(m, reply);
            }
            network.sendAgain(reply);
            return true;
        }

        private void carryOut(Message m, Message reply) {
            int k = slotWith(m.serial);
            if (k == NONE) {
                reply.write(NOOBJECT, id, m.sender, m.serial, m.number, 0);
                return;
            }
            slots[k].value += m.extra;
            reply.write(ANSWER, id, m.sender, m.serial, m.number, slots[k].value);
        }

        private boolean receiveReply(Message m) {
            if (request.state != WAITING || request.number != m.number) {
                return false;
            }
            if (m.kind == ANSWER) {
                request.state = DONE;
                request.result = m.extra;
            } else {
                request.state = FAILED;
            }
            return true;
        }

        int emptyUnkeptSlots() {
            markKeptSlots();
            int emptied = 0;
            for (int k = 0; k < SLOTS; k++) {
                Slot slot = slots[k];
                if (slot.holds != EMPTY && !kept[k]) {
                    if (slot.holds == SURROGATE) {
                        sendClean(slot);
                    }
                    slot.holds = EMPTY;
                    emptied++;
                }
            }
            return emptied;
        }

        private void markKeptSlots() {
            for (int k = 0; k < SLOTS; k++) {
                kept[k] = slots[k].isListed(network.clock);
            }
            for (int i = 0; i < ROOTS; i++) {
                keep(roots[i]);
            }
            for (int i = 0; i < MOST_PINS; i++) {
                if (isLive(pins[i])) {
                    keep(pins[i].slot);
                }
            }
            if (request.state == WAITING) {
                keep(request.slot);
            }
            // No chain of fields is longer than the slots are many.
            for (int round = 0; round < SLOTS; round++) {
                keepWhatFieldsReferTo();
            }
        }

        private void keep(int k) {
            if (k != NONE) {
                kept[k] = true;
            }
        }

        private void keepWhatFieldsReferTo() {
            for (int k = 0; k < SLOTS; k++) {
                if (kept[k] && slots[k].holds == OBJECT) {
                    for (int i = 0; i < FIELDS; i++) {
                        keep(slots[k].fields[i]);
                    }
                }
            }
        }
    }
}
