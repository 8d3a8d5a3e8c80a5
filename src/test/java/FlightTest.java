/** Promises 8 to 10, 14 and 15: deliver, lose, copy, flight, message. */
public final class FlightTest {
    /** Four messages to three nodes: the passes 0, 1, 2 and 3. */
    private static final String FOUR = """
        make 0 0 = 0
        pass 0 0 1 0 = 0
        pass 0 0 2 1 = 1
        pass 0 0 3 2 = 2
        pass 0 0 1 1 = 3
        flight = 4
        """;

    public static void main(String[] args) {
        deliver();
        loseAndCopy();
        message();
        Script.finish();
    }

    private static void deliver() {
        Script.run("deliver takes out the place that it names", FOUR, """
            deliver 1 = 1
            flight = 4
            message 0 4 = 0
            message 1 4 = 2
            message 2 4 = 3
            message 3 0 = 2
            message 3 1 = 2
            slot 2 0 0 = 2
            slot 1 0 0 = 0
            slot 3 0 0 = 0
            root 2 1 = 0
            deliver 3 = 1
            message 3 0 = 3
            deliver 0 = 1
            message 0 4 = 2
            message 3 0 = 2
            message 3 1 = 1
            """);
        Script.run("deliver makes room before the reply is sent", """
            make 0 0 = 0
            pass 0 0 1 0 = 0
            copy 0 = 1 x 31
            deliver 0 = 1
            flight = 32
            message 31 0 = 2
            message 30 0 = 0
            """);
        Script.run("deliver refuses", FOUR, """
            deliver 4 = -1
            deliver -1 = -1
            deliver 32 = -1
            deliver 2147483647 = -1
            deliver -2147483648 = -1
            """);
        Script.run("deliver with nothing in flight", "deliver 0 = -1\nlose 0 = 0\ncopy 0 = 0\nflight = 0");
        Script.run("deliver to a crashed node, and from one", FOUR, """
            crash 1 = 1
            crash 0 = 1
            deliver 0 = 0
            flight = 3
            slot 1 0 0 = 0
            root 1 0 = -1
            deliver 0 = 1           # what was sent before the crash arrives
            slot 2 0 0 = 2
            deliver 2 = 0           # DIRTY to the crashed owner
            listing 0 0 2 = 0
            flight = 2
            """);
    }

    private static void loseAndCopy() {
        Script.run("lose", FOUR, """
            lose 1 = 1
            flight = 3
            message 0 4 = 0
            message 1 4 = 2
            message 2 4 = 3
            lose 2 = 1
            flight = 2
            lose 2 = 0
            lose -1 = 0
            lose 2147483647 = 0
            lose -2147483648 = 0
            lose 0 = 1
            message 0 4 = 2
            slot 1 0 0 = 0
            slot 2 0 0 = 0
            pins 0 = 4
            """);
        Script.run("copy", FOUR, """
            copy 1 = 1
            flight = 5
            message 4 0 = 0
            message 4 1 = 0
            message 4 2 = 2
            message 4 3 = 0
            message 4 4 = 1
            message 4 5 = 4
            message 1 4 = 1
            message 2 4 = 2
            copy 5 = 0
            copy -1 = 0
            copy 2147483647 = 0
            copy -2147483648 = 0
            lose 1 = 1              # the copy is one of its own
            message 3 4 = 1
            message 3 2 = 2
            pins 0 = 4
            """);
        Script.run("32 are the most in flight", FOUR, """
            copy 3 = 1 x 28
            flight = 32
            copy 0 = 0
            copy 31 = 0
            copy 32 = 0
            deliver 32 = -1
            lose 32 = 0
            message 31 4 = 3
            message 32 4 = -1
            pass 0 0 2 0 = 4
            flight = 32
            message 31 4 = 3
            lose 31 = 1
            flight = 31
            copy 0 = 1
            message 31 4 = 0
            copy 0 = 0
            """);
    }

    private static void message() {
        Script.run("message refuses", FOUR, """
            message 4 0 = -1
            message -1 0 = -1
            message 0 6 = -1
            message 0 -1 = -1
            message 2147483647 0 = -1
            message 0 -2147483648 = -1
            message 3 5 = 4
            message 3 2 = 1
            """);
    }
}
