/** Promises 7 and 20, and how CALL, ANSWER and NOOBJECT come to a node. */
public final class CallingTest {
    /** GOOD, and node 2 has a GOOD surrogate for the same object, too. */
    private static final String TWO_CLIENTS = Start.GOOD + """
        pass 0 0 2 0 = 1
        deliver 0 = 1
        deliver 0 = 1
        deliver 0 = 1
        deliver 0 = 1
        flight = 0
        """;

    public static void main(String[] args) {
        call();
        callRefuses();
        callComes();
        replyComes();
        outcome();
        Script.finish();
    }

    private static void call() {
        Script.run("CALL says what it is", Start.GOOD, """
            call 1 0 -9 = 1
            flight = 1
            message 0 0 = 6
            message 0 1 = 1
            message 0 2 = 0
            message 0 3 = 0
            message 0 4 = 1
            message 0 5 = -9
            outcome 1 0 = 1
            outcome 1 1 = 1
            outcome 1 2 = 0
            outcome 0 0 = 0
            slot 0 0 2 = 0
            deliver 0 = 1
            slot 0 0 2 = -9
            outcome 1 0 = 1
            deliver 0 = 1
            outcome 1 0 = 2
            outcome 1 2 = -9
            call 1 0 0 = 2
            message 0 4 = 2
            """);
        Script.run("each node numbers its calls", TWO_CLIENTS, """
            call 1 0 5 = 1
            call 2 0 6 = 1
            deliver 1 = 1
            deliver 0 = 1
            slot 0 0 2 = 11
            deliver 0 = 1
            deliver 0 = 1
            outcome 2 2 = 6
            outcome 1 2 = 11
            call 2 0 1 = 2
            call 1 0 1 = 2
            """);
        Script.run("a CALL that is lost waits all the same", Start.GOOD, """
            pass 0 0 1 1 = 1
            copy 0 = 1 x 31
            call 1 0 5 = 1
            flight = 32
            message 31 0 = 0
            outcome 1 0 = 1
            """);
    }

    private static void callRefuses() {
        Script.run("call refuses", Start.GOOD, """
            call 0 0 1 = -1         # an object
            call 1 1 1 = -1         # nothing
            call -1 0 1 = -1
            call 4 0 1 = -1
            call 1 -1 1 = -1
            call 1 3 1 = -1
            call 2147483647 0 1 = -1
            call 1 -2147483648 1 = -1
            call 1 0 1 = 1
            call 1 0 1 = -1         # one waits
            crash 1 = 1
            call 1 0 1 = -1
            """);
        Script.run("a surrogate that is not GOOD", Start.PENDING, """
            call 1 0 1 = -2
            outcome 1 0 = 0
            outcome 1 1 = 0
            """);
        Script.run("a STALE surrogate", Start.STALE, "call 1 0 1 = -2\noutcome 1 1 = 0");
        Script.run("NONE for a call that waits goes before STALE", Start.GOOD, """
            tick 12 = 1
            tick 11 = 1
            call 1 0 1 = 1
            tick 1 = 1
            slot 1 0 2 = 2
            call 1 0 1 = -1
            """);
        Script.run("call at a crashed node", Start.GOOD, "crash 1 = 1\ncall 1 0 1 = -1");
        Script.run("call to a crashed owner", Start.GOOD, """
            crash 0 = 1
            call 1 0 1 = 1
            deliver 0 = 0
            slot 0 0 2 = 0
            outcome 1 0 = 1
            """);
    }

    private static void callComes() {
        Script.run("ANSWER says what it is, the sum wraps", Start.GOOD, """
            call 1 0 2147483647 = 1
            deliver 0 = 1
            message 0 0 = 7
            message 0 1 = 0
            message 0 2 = 1
            message 0 3 = 0
            message 0 4 = 1
            message 0 5 = 2147483647
            deliver 0 = 1
            call 1 0 1 = 2
            deliver 0 = 1
            slot 0 0 2 = -2147483648
            deliver 0 = 1
            outcome 1 2 = -2147483648
            """);
        Script.run("a CALL is done once, and answered each time as it was then", TWO_CLIENTS, """
            call 1 0 5 = 1
            copy 0 = 1
            deliver 0 = 1
            call 2 0 10 = 1
            deliver 2 = 1
            slot 0 0 2 = 15
            deliver 0 = 1           # the copy of CALL 1
            slot 0 0 2 = 15
            flight = 3
            message 0 5 = 5
            message 1 5 = 15
            message 2 0 = 7
            message 2 1 = 0
            message 2 2 = 1
            message 2 3 = 0
            message 2 4 = 1
            message 2 5 = 5
            """);
        Script.run("an older CALL is dropped", Start.GOOD, """
            call 1 0 5 = 1
            copy 0 = 1
            deliver 0 = 1
            deliver 1 = 1
            call 1 0 6 = 2
            deliver 1 = 1
            slot 0 0 2 = 11
            deliver 0 = 0           # the copy of CALL 1
            slot 0 0 2 = 11
            flight = 1
            """);
        Script.run("the latest call counts over all objects of the owner", Start.GOOD, """
            make 0 1 = 1
            pass 0 1 1 1 = 1
            deliver 0 = 1 x 4
            call 1 0 5 = 1
            copy 0 = 1
            deliver 0 = 1
            deliver 1 = 1
            call 1 1 6 = 2
            deliver 1 = 1
            slot 0 1 2 = 6
            slot 0 0 2 = 5
            deliver 0 = 0
            slot 0 0 2 = 5
            """);
        Script.run("CALL for an object that is gone", Start.GOOD, """
            tick 12 = 1
            tick 11 = 1
            call 1 0 5 = 1
            drop 0 0 = 1
            tick 1 = 1
            collect 0 = 1
            copy 3 = 1
            deliver 3 = 1
            message 4 0 = 8
            message 4 1 = 0
            message 4 2 = 1
            message 4 3 = 0
            message 4 4 = 1
            message 4 5 = 0
            deliver 3 = 1           # the copy of the CALL
            flight = 5
            message 4 0 = 8
            message 4 4 = 1
            outcome 1 0 = 1
            deliver 3 = 1
            outcome 1 0 = 3
            outcome 1 1 = 1
            outcome 1 2 = 0
            deliver 3 = 0
            outcome 1 0 = 3
            """);
    }

    private static void replyComes() {
        Script.run("a second ANSWER is dropped", Start.GOOD, """
            call 1 0 5 = 1
            deliver 0 = 1
            copy 0 = 1
            copy 0 = 1
            deliver 0 = 1
            deliver 0 = 0
            call 1 0 6 = 2
            deliver 0 = 0           # ANSWER 1 for call 2
            outcome 1 0 = 1
            outcome 1 1 = 2
            outcome 1 2 = 5
            deliver 0 = 1
            deliver 0 = 1
            outcome 1 0 = 2
            outcome 1 2 = 11
            """);
        Script.run("an ANSWER after the call FAILED is dropped", Start.GOOD, """
            tick 12 = 1
            tick 9 = 1
            call 1 0 5 = 1
            deliver 3 = 1
            tick 3 = 1
            outcome 1 0 = 3
            deliver 3 = 0
            outcome 1 0 = 3
            outcome 1 2 = 0
            """);
    }

    private static void outcome() {
        Script.run("the RESULT stays while later calls wait or fail", Start.GOOD, """
            call 1 0 5 = 1
            deliver 0 = 1
            deliver 0 = 1
            tick 12 = 1
            tick 11 = 1
            call 1 0 6 = 2
            outcome 1 0 = 1
            outcome 1 1 = 2
            outcome 1 2 = 5
            tick 3 = 1
            outcome 1 0 = 3
            outcome 1 1 = 2
            outcome 1 2 = 5
            """);
        Script.run("outcome refuses", Start.GOOD, """
            call 1 0 5 = 1
            outcome -1 0 = -1
            outcome 4 0 = -1
            outcome 1 -1 = -1
            outcome 1 3 = -1
            outcome 2147483647 0 = -1
            outcome 1 -2147483648 = -1
            """);
        Script.run("outcome at a crashed node", Start.GOOD, """
            call 1 0 5 = 1
            deliver 0 = 1
            deliver 0 = 1
            call 1 0 6 = 2
            deliver 0 = 1
            crash 1 = 1
            deliver 0 = 0
            tick 12 = 1
            tick 12 = 1
            tick 12 = 1
            outcome 1 0 = 1
            outcome 1 1 = 2
            outcome 1 2 = 5
            outcome 1 3 = -1
            """);
    }
}
