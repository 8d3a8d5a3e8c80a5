import java.util.ArrayList;
import java.util.List;
import java.util.Map;

/**
 * "A node, root or field that is not there, or a node that crashed, makes a call answer NONE or false", and the same
 * for a slot, client, place, part or number of ticks: for every call that would be answered, each argument in turn,
 * and each two, are put wrong. The call must be refused, and Futures must tell that it changed nothing.
 */
public final class WrongArgumentsTest {
    /** Of each kind of argument the least and the greatest that is there. */
    private static final Map<Character, int[]> THERE = Map.ofEntries(
        Map.entry('n', new int[] {0, 3}),       // a node
        Map.entry('r', new int[] {0, 2}),       // a root
        Map.entry('f', new int[] {0, 1}),       // a field
        Map.entry('o', new int[] {-1, 2}),      // the root from, or -1
        Map.entry('s', new int[] {0, 7}),       // a slot
        Map.entry('p', new int[] {0, 2}),       // a place: BUSY has three messages in flight
        Map.entry('t', new int[] {1, 12}),      // ticks
        Map.entry('m', new int[] {0, 5}),       // a part of a message
        Map.entry('h', new int[] {0, 4}),       // a part of a slot
        Map.entry('c', new int[] {0, 2}));      // a part of a call

    /** Object 0 of node 0 has a field, GOOD surrogates at the nodes 1 and 3, and messages of three kinds in flight. */
    private static final String[] BUSY = {
        "make 0 0", "make 0 1", "link 0 0 0 1", "pass 0 0 1 0", "pass 0 0 3 2",
        "deliver 0", "deliver 0", "deliver 0", "deliver 0", "deliver 0", "deliver 0", "deliver 0", "deliver 0",
        "make 3 1", "tick 2", "pass 3 1 2 0", "call 1 0 5", "pass 0 1 2 1", "deliver 2"};

    /** Calls that are answered after BUSY, the kinds of their arguments behind them; x is any int. */
    private static final String[][] ANSWERED = {
        {"make 0 2", "nr"}, {"make 3 0", "nr"},
        {"link 0 0 1 0", "nrfo"}, {"link 3 1 0 2", "nrfo"}, {"link 0 1 0 -1", "nrfo"},
        {"fetch 0 0 0 2", "nrfr"}, {"fetch 3 1 1 0", "nrfr"},
        {"drop 0 0", "nr"}, {"drop 2 1", "nr"},
        {"pass 0 0 3 0", "nrnr"}, {"pass 3 2 0 2", "nrnr"}, {"pass 1 0 2 1", "nrnr"},
        {"call 3 2 7", "nrx"},
        {"deliver 0", "p"}, {"deliver 2", "p"}, {"lose 0", "p"}, {"lose 2", "p"}, {"copy 0", "p"}, {"copy 2", "p"},
        {"tick 1", "t"}, {"tick 12", "t"},
        {"collect 0", "n"}, {"collect 3", "n"}, {"crash 0", "n"}, {"crash 3", "n"},
        {"message 0 0", "pm"}, {"message 2 5", "pm"},
        {"root 0 0", "nr"}, {"root 3 2", "nr"},
        {"slot 0 0 0", "nsh"}, {"slot 0 7 0", "nsh"}, {"slot 3 0 4", "nsh"},
        {"listing 0 0 1", "nsn"}, {"listing 3 1 2", "nsn"},
        {"pins 0", "n"}, {"pins 3", "n"},
        {"outcome 0 0", "nc"}, {"outcome 1 2", "nc"}};

    private static final int[] FAR = {
        32, 33, 100, 255, 256, 257, 65535, 65536, 1 << 24, 1 << 30, Integer.MAX_VALUE - 1, Integer.MAX_VALUE,
        -8, -32, -33, -256, -65536, -(1 << 30), Integer.MIN_VALUE, Integer.MIN_VALUE + 1, Integer.MIN_VALUE + 2};

    private static int refused = 0;

    public static void main(String[] args) {
        List<Call> busy = calls(BUSY);
        List<String> told = Futures.of(busy);
        for (String[] pair : ANSWERED) {
            Call call = Call.parse(pair[0]);
            isAnswered(busy, call);
            wrongOneByOne(busy, told, call, pair[1]);
            wrongTwoByTwo(busy, told, call, pair[1]);
        }
        crashedNodes(busy);
        readingOfCrashedNodes(busy);
        nothingInFlight();
        System.out.println(refused + " calls with wrong arguments");
        Script.finish();
    }

    private static List<Call> calls(String... lines) {
        List<Call> calls = new ArrayList<>();
        for (String line : lines) {
            calls.add(Call.parse(line));
        }
        return calls;
    }

    /** Else a refusal would show nothing. */
    private static void isAnswered(List<Call> before, Call call) {
        int answer = Behind.after(before).answer(call);
        boolean reads = Subject.READING.contains(call.name());
        if (answer < 0 || !reads && Subject.changesNothing(call.name(), answer)) {
            Script.fault(call + " answered " + answer + ", and must not be refused");
        }
    }

    private static void isRefused(List<Call> before, List<String> told, Call call) {
        refused++;
        Script.same("after " + before + ": " + call, Behind.after(before).answer(call), Subject.refusal(call.name()));
        List<Call> more = new ArrayList<>(before);
        more.add(call);
        if (!Futures.of(more).equals(told)) {
            Script.fault("after " + before + ": " + call + " changed something, and must not");
        }
    }

    private static void wrongOneByOne(List<Call> before, List<String> told, Call call, String kinds) {
        for (int i = 0; i < kinds.length(); i++) {
            for (int wrong : wrongOf(kinds.charAt(i))) {
                isRefused(before, told, call.withArgument(i, wrong));
            }
        }
    }

    private static void wrongTwoByTwo(List<Call> before, List<String> told, Call call, String kinds) {
        for (int i = 0; i < kinds.length(); i++) {
            for (int j = i + 1; j < kinds.length(); j++) {
                for (int first : justOutside(kinds.charAt(i))) {
                    for (int second : justOutside(kinds.charAt(j))) {
                        isRefused(before, told, call.withArgument(i, first).withArgument(j, second));
                    }
                }
            }
        }
    }

    private static List<Integer> justOutside(char kind) {
        int[] there = THERE.get(kind);
        return there == null ? List.of() : List.of(there[0] - 1, there[1] + 1);
    }

    private static List<Integer> wrongOf(char kind) {
        int[] there = THERE.get(kind);
        List<Integer> wrong = new ArrayList<>();
        if (there != null) {
            for (int away = 1; away <= 5; away++) {
                wrong.add(there[0] - away);
                wrong.add(there[1] + away);
            }
            for (int far : FAR) {
                wrong.add(far);
            }
        }
        return wrong;
    }

    private static void crashedNodes(List<Call> busy) {
        for (String[] pair : ANSWERED) {
            Call call = Call.parse(pair[0]);
            if (pair[1].charAt(0) == 'n' && !Subject.READING.contains(call.name())) {
                List<Call> before = new ArrayList<>(busy);
                before.add(new Call("crash", call.arguments()[0]));
                isRefused(before, Futures.of(before), call);
            }
        }
    }

    /** The promises 16 to 20 hold "of a node that crashed, too": what it has is read as before. */
    private static void readingOfCrashedNodes(List<Call> busy) {
        List<String> told = View.of(new Behind(busy));
        List<Call> crashed = new ArrayList<>(busy);
        for (int node = 0; node < 4; node++) {
            crashed.add(new Call("crash", node));
        }
        if (!View.of(new Behind(crashed)).equals(told)) {
            Script.fault("of crashed nodes something else is read than before they crashed");
        }
        List<String> toldOfCrashed = Futures.of(crashed);
        for (String[] pair : ANSWERED) {
            Call call = Call.parse(pair[0]);
            if (Subject.READING.contains(call.name())) {
                wrongOneByOne(crashed, toldOfCrashed, call, pair[1]);
            }
        }
    }

    private static void nothingInFlight() {
        List<String> told = Futures.of(List.of());
        for (Call call : calls("deliver 0", "lose 0", "copy 0", "message 0 0")) {
            isRefused(List.of(), told, call);
        }
    }
}
