/** Promise 11: tick. */
public final class TickTest {
    public static void main(String[] args) {
        howMany();
        dirties();
        calls();
        order();
        crashed();
        Script.finish();
    }

    private static void howMany() {
        Script.run("tick takes 1 to 12", Start.GOOD, """
            tick 0 = 0
            tick 13 = 0
            tick -1 = 0
            tick 2147483647 = 0
            tick -2147483648 = 0
            listing 0 0 1 = 24
            tick 1 = 1
            listing 0 0 1 = 23
            tick 12 = 1
            listing 0 0 1 = 11
            """);
    }

    private static void dirties() {
        Script.run("a GOOD surrogate's DIRTY every 6", Start.GOOD, """
            tick 5 = 1
            flight = 0
            tick 1 = 1
            flight = 1
            message 0 0 = 2
            message 0 1 = 1
            message 0 2 = 0
            message 0 3 = 0
            message 0 4 = 2
            message 0 5 = 6
            tick 5 = 1
            flight = 1
            tick 1 = 1
            flight = 2
            message 1 4 = 3
            message 1 5 = 12
            """);
        Script.run("n ticks are n times one", Start.GOOD, """
            tick 3 = 1
            tick 12 = 1
            flight = 2
            message 0 5 = 6
            message 1 5 = 12
            tick 3 = 1
            flight = 3
            message 2 5 = 18
            """);
        Script.run("a PENDING surrogate's DIRTY, none for a STALE one", Start.PENDING, """
            lose 0 = 1
            tick 6 = 1
            flight = 1
            message 0 4 = 2
            slot 1 0 3 = 24         # a DIRTY alone prolongs nothing
            tick 12 = 1
            flight = 3
            slot 1 0 2 = 0
            tick 5 = 1
            tick 1 = 1
            slot 1 0 2 = 2
            flight = 3
            tick 12 = 1
            flight = 3
            """);
        Script.run("a DIRTY that is lost was sent", Start.GOOD, """
            pass 0 0 1 1 = 1
            copy 0 = 1 x 31
            tick 6 = 1
            message 31 0 = 0
            lose 0 = 1 x 32
            tick 5 = 1
            flight = 0
            tick 1 = 1
            flight = 1
            message 0 4 = 3
            message 0 5 = 12
            """);
        Script.run("SENT counts from when it became PENDING", """
            make 0 0 = 0
            pass 0 0 1 0 = 0
            tick 4 = 1
            deliver 0 = 1
            lose 0 = 1
            tick 5 = 1
            flight = 0
            tick 1 = 1
            message 0 5 = 10
            """);
        Script.run("a lease that is renewed lasts", Start.GOOD, """
            tick 6 = 1
            deliver 0 = 1 x 2
            tick 6 = 1
            deliver 0 = 1 x 2
            tick 6 = 1
            deliver 0 = 1 x 2
            tick 6 = 1
            deliver 0 = 1 x 2
            flight = 0
            slot 1 0 2 = 1
            slot 1 0 3 = 48
            listing 0 0 1 = 24
            """);
    }

    private static void calls() {
        Script.run("CALL again every 3", Start.GOOD, """
            tick 1 = 1
            call 1 0 5 = 1
            lose 0 = 1
            tick 2 = 1
            flight = 0
            tick 1 = 1
            flight = 1
            message 0 0 = 6
            message 0 1 = 1
            message 0 2 = 0
            message 0 3 = 0
            message 0 4 = 1
            message 0 5 = 5
            lose 0 = 1
            tick 1 = 1
            tick 1 = 1              # the clock is 6
            flight = 1
            message 0 0 = 2
            tick 1 = 1
            flight = 2
            message 1 0 = 6
            deliver 1 = 1
            deliver 1 = 1
            outcome 1 0 = 2
            tick 4 = 1
            flight = 1              # no CALL any more
            """);
        Script.run("CALL again that is lost was sent", Start.GOOD, """
            pass 0 0 1 1 = 1
            copy 0 = 1 x 31
            call 1 0 5 = 1
            tick 3 = 1
            lose 0 = 1 x 32
            tick 2 = 1
            flight = 0
            tick 1 = 1
            flight = 2
            message 0 0 = 2
            message 1 0 = 6
            """);
        Script.run("a call of a STALE surrogate fails when it would be sent again", Start.GOOD, """
            tick 12 = 1
            tick 11 = 1
            call 1 0 5 = 1
            flight = 4
            tick 1 = 1
            slot 1 0 2 = 2
            outcome 1 0 = 1
            tick 1 = 1
            outcome 1 0 = 1
            tick 1 = 1
            outcome 1 0 = 3
            flight = 4
            tick 12 = 1
            flight = 4
            """);
        Script.run("a call of a surrogate that is PENDING again is sent again", Start.GOOD, """
            tick 12 = 1
            tick 11 = 1
            lose 0 = 1 x 3
            call 1 0 5 = 1
            tick 1 = 1
            pass 0 0 1 1 = 1
            deliver 1 = 1
            slot 1 0 2 = 0
            tick 2 = 1
            outcome 1 0 = 1
            flight = 3
            message 2 0 = 6
            message 2 4 = 1
            """);
    }

    private static void order() {
        Script.run("nodes in order, their slots in order, then their call", """
            make 3 0 = 0
            make 3 1 = 1
            pass 3 1 2 0 = 0
            pass 3 0 1 0 = 1
            pass 3 1 1 1 = 2
            deliver 0 = 1           # node 2 before node 1
            deliver 0 = 1
            deliver 0 = 1
            deliver 0 = 1 x 9
            flight = 0
            slot 1 0 2 = 1
            slot 1 1 2 = 1
            slot 2 0 2 = 1
            tick 3 = 1
            call 2 0 8 = 1
            call 1 1 9 = 1
            lose 0 = 1 x 2
            tick 3 = 1
            flight = 5
            message 0 0 = 2
            message 0 1 = 1
            message 0 3 = 0
            message 0 4 = 3
            message 1 0 = 2
            message 1 1 = 1
            message 1 3 = 1
            message 1 4 = 4
            message 2 0 = 6
            message 2 1 = 1
            message 2 5 = 9
            message 3 0 = 2
            message 3 1 = 2
            message 3 4 = 2
            message 4 0 = 6
            message 4 1 = 2
            message 4 5 = 8
            """);
    }

    private static void crashed() {
        Script.run("a crashed node sends nothing, the clock goes on", Start.GOOD, """
            call 1 0 5 = 1
            lose 0 = 1
            crash 1 = 1
            tick 12 = 1
            flight = 0
            listing 0 0 1 = 12
            outcome 1 0 = 1
            tick 12 = 1
            tick 3 = 1
            outcome 1 0 = 1
            slot 1 0 2 = 2
            slot 1 0 3 = 24
            """);
        Script.run("the clock goes on with all nodes crashed", Start.GOOD, """
            crash 0 = 1
            crash 1 = 1
            crash 2 = 1
            crash 3 = 1
            tick 12 = 1
            listing 0 0 1 = 12
            flight = 0
            """);
    }
}
