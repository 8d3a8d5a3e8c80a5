/** Promises 6 and 19, and how PASS and TAKEN come to a node. */
public final class PassingTest {
    public static void main(String[] args) {
        pass();
        passRefuses();
        pins();
        passComes();
        takenComes();
        Script.finish();
    }

    private static void pass() {
        Script.run("PASS says what it is", """
            make 3 2 = 0
            make 2 0 = 1
            pass 3 2 1 1 = 0
            pass 2 0 0 2 = 1
            message 0 0 = 0
            message 0 1 = 3
            message 0 2 = 1
            message 0 3 = 0
            message 0 4 = 0
            message 0 5 = 7
            message 1 0 = 0
            message 1 1 = 2
            message 1 2 = 0
            message 1 3 = 1
            message 1 4 = 1
            message 1 5 = 10
            pins 3 = 1
            pins 2 = 1
            pins 0 = 0
            """);
        Script.run("a GOOD surrogate is passed on with its owner", Start.GOOD, """
            pass 1 0 2 1 = 1
            message 0 1 = 1
            message 0 2 = 2
            message 0 3 = 0
            message 0 4 = 1
            message 0 5 = 4
            pins 1 = 1
            pins 0 = 0
            deliver 0 = 1
            slot 2 0 4 = 0
            message 0 0 = 2
            message 0 2 = 0         # the DIRTY goes to the owner
            deliver 0 = 1
            listing 0 0 2 = 24
            deliver 0 = 1
            message 0 0 = 1
            message 0 2 = 1         # TAKEN goes to the sender
            deliver 0 = 1
            pins 1 = 0
            """);
        Script.run("a PASS that is lost has its pin and its id", """
            make 0 0 = 0
            pass 0 0 1 0 = 0
            copy 0 = 1 x 31
            pass 0 0 2 0 = 1
            flight = 32
            message 31 4 = 0
            pins 0 = 2
            lose 0 = 1
            pass 0 0 2 0 = 2
            message 31 4 = 2
            """);
        Script.run("a PASS to a crashed node", """
            make 0 0 = 0
            crash 1 = 1
            pass 0 0 1 0 = 0
            pins 0 = 1
            deliver 0 = 0
            flight = 0
            pins 0 = 1
            root 1 0 = -1
            """);
    }

    private static void passRefuses() {
        Script.run("pass refuses", """
            make 0 0 = 0
            pass 0 0 0 0 = -1       # to itself
            pass 0 1 1 0 = -1       # nothing to pass
            pass -1 0 1 0 = -1
            pass 4 0 1 0 = -1
            pass 0 -1 1 0 = -1
            pass 0 3 1 0 = -1
            pass 0 0 -1 0 = -1
            pass 0 0 4 0 = -1
            pass 0 0 1 -1 = -1
            pass 0 0 1 3 = -1
            pass 0 0 2147483647 0 = -1
            pass 0 0 1 -2147483648 = -1
            pass 0 0 1 0 = 0        # the refused ones took no id
            crash 0 = 1
            pass 0 0 1 0 = -1
            """);
        Script.run("a PENDING surrogate is not passed on", Start.PENDING, """
            pass 1 0 2 0 = -2
            pass 1 0 0 0 = -2
            pass 1 0 1 0 = -1       # NONE goes before STALE
            pass 1 0 4 0 = -1
            pass 1 0 2 3 = -1
            pass 1 1 2 0 = -1
            """);
        Script.run("a STALE surrogate is not passed on", Start.STALE, "pass 1 0 2 0 = -2\npins 1 = 0");
        Script.run("NONE for six pins goes before STALE", Start.PENDING, """
            make 1 1 = 1
            pass 1 1 2 0 = 1
            pass 1 1 2 0 = 2
            pass 1 1 2 0 = 3
            pass 1 1 2 0 = 4
            pass 1 1 2 0 = 5
            pass 1 0 2 0 = -2
            pass 1 1 2 0 = 6
            pass 1 0 2 0 = -1
            pass 1 1 2 0 = -1
            """);
    }

    private static void pins() {
        Script.run("six pins are the most, each for 24", """
            make 0 0 = 0
            pass 0 0 1 0 = 0
            pass 0 0 1 0 = 1
            tick 1 = 1
            pass 0 0 1 0 = 2
            pass 0 0 1 0 = 3
            pass 0 0 1 0 = 4
            pass 0 0 1 0 = 5
            pins 0 = 6
            pass 0 0 1 0 = -1
            tick 12 = 1
            tick 10 = 1
            pins 0 = 6
            pass 0 0 1 0 = -1
            tick 1 = 1
            pins 0 = 4
            pass 0 0 2 0 = 6
            pass 0 0 2 0 = 7
            pass 0 0 2 0 = -1
            tick 1 = 1
            pins 0 = 2
            pass 0 0 2 0 = 8
            """);
        Script.run("pins of other nodes do not count", """
            make 0 0 = 0
            make 1 0 = 1
            pass 0 0 2 0 = 0
            pass 0 0 2 0 = 1
            pass 0 0 2 0 = 2
            pass 0 0 2 0 = 3
            pass 0 0 2 0 = 4
            pass 0 0 2 0 = 5
            pass 1 0 2 0 = 6
            pins 0 = 6
            pins 1 = 1
            pins 2 = 0
            pins 3 = 0
            pins 4 = -1
            pins -1 = -1
            pins 2147483647 = -1
            """);
        Script.run("pins of a crashed node", """
            make 0 0 = 0
            pass 0 0 1 0 = 0
            tick 2 = 1
            pass 0 0 1 0 = 1
            crash 0 = 1
            pins 0 = 2
            tick 12 = 1
            tick 10 = 1
            pins 0 = 1
            tick 2 = 1
            pins 0 = 0
            """);
    }

    private static void passComes() {
        Script.run("to the owner that has the object", Start.GOOD, """
            pass 1 0 0 2 = 1
            deliver 0 = 1
            root 0 2 = 0
            flight = 1
            message 0 0 = 1
            message 0 1 = 0
            message 0 2 = 1
            message 0 3 = 0
            message 0 4 = 1
            message 0 5 = 0
            deliver 0 = 1
            pins 1 = 0
            """);
        Script.run("to the owner that has it no more", Start.GOOD, """
            pass 1 0 0 2 = 1
            drop 0 0 = 1
            tick 12 = 1
            tick 12 = 1
            collect 0 = 1
            flight = 4
            message 0 0 = 0
            deliver 0 = 0
            flight = 3
            root 0 2 = -1
            slot 0 0 0 = 0
            """);
        Script.run("to a GOOD surrogate", Start.GOOD, """
            pass 0 0 1 2 = 1
            tick 1 = 1
            deliver 0 = 1
            root 1 2 = 0
            root 1 0 = 0
            slot 1 0 3 = 24
            slot 1 1 0 = 0
            flight = 1
            message 0 0 = 1
            message 0 1 = 1
            message 0 2 = 0
            message 0 3 = 0
            message 0 4 = 1
            message 0 5 = 0
            deliver 0 = 1
            pins 0 = 0
            """);
        Script.run("to a PENDING surrogate, which owes the newer pass", Start.PENDING, """
            pass 0 0 1 1 = 1
            tick 1 = 1
            deliver 1 = 1
            flight = 1
            root 1 0 = 0
            root 1 1 = 0
            slot 1 0 3 = 24
            slot 1 0 2 = 0
            deliver 0 = 1
            deliver 0 = 1
            flight = 1
            message 0 0 = 1
            message 0 2 = 0
            message 0 3 = 0
            message 0 4 = 1
            message 0 5 = 0
            deliver 0 = 1
            pins 0 = 1
            """);
        Script.run("to a PENDING surrogate from another sender", Start.GOOD, """
            pass 0 0 2 0 = 1
            pass 1 0 2 1 = 2
            deliver 0 = 1           # PASS 1, then DIRTY
            deliver 0 = 1           # PASS 2
            deliver 0 = 1
            deliver 0 = 1
            message 0 0 = 1
            message 0 1 = 2
            message 0 2 = 1
            message 0 4 = 2
            pins 0 = 1
            pins 1 = 1
            deliver 0 = 1
            pins 1 = 0
            """);
        Script.run("to a STALE surrogate, which becomes PENDING", Start.STALE, """
            pass 0 0 1 1 = 1
            deliver 3 = 1
            root 1 0 = 0
            root 1 1 = 0
            slot 1 0 2 = 0
            slot 1 0 3 = 48
            slot 1 1 0 = 0
            flight = 4
            message 3 0 = 2
            message 3 1 = 1
            message 3 2 = 0
            message 3 3 = 0
            message 3 4 = 5
            message 3 5 = 24
            deliver 0 = 1           # DIRTY 2
            message 3 0 = 3
            message 3 4 = 2
            deliver 3 = 0           # LISTED 2 is for its earlier life
            slot 1 0 2 = 0
            slot 1 0 3 = 48
            deliver 2 = 1           # DIRTY 5
            deliver 2 = 1           # LISTED 5
            slot 1 0 2 = 1
            message 2 0 = 1
            message 2 4 = 1
            """);
        Script.run("with no surrogate: the least empty slot", """
            make 1 0 = 0
            make 1 1 = 1
            make 1 2 = 2
            drop 1 1 = 1
            collect 1 = 1
            make 3 0 = 3
            tick 2 = 1
            pass 3 0 1 1 = 0
            deliver 0 = 1
            root 1 1 = 1
            slot 1 1 0 = 2
            slot 1 1 1 = 3
            slot 1 1 2 = 0
            slot 1 1 3 = 26
            slot 1 1 4 = 3
            flight = 1
            message 0 0 = 2
            message 0 1 = 1
            message 0 2 = 3
            message 0 3 = 3
            message 0 4 = 1
            message 0 5 = 2
            """);
        Script.run("with no surrogate and no empty slot", """
            make 1 0 = 0
            make 1 0 = 1
            make 1 0 = 2
            make 1 0 = 3
            make 1 0 = 4
            make 1 0 = 5
            make 1 0 = 6
            make 1 0 = 7
            make 0 0 = 8
            pass 0 0 1 2 = 0
            copy 0 = 1
            deliver 0 = 0
            flight = 1
            root 1 2 = -1
            pins 0 = 1
            collect 1 = 7
            deliver 0 = 1
            root 1 2 = 0
            """);
    }

    private static void takenComes() {
        Script.run("TAKEN ends its pin once", """
            make 0 0 = 0
            pass 0 0 1 0 = 0
            pass 0 0 2 0 = 1
            deliver 0 = 1
            deliver 1 = 1
            deliver 1 = 1
            flight = 2
            message 1 0 = 1
            copy 1 = 1
            deliver 1 = 1
            pins 0 = 1
            deliver 1 = 0
            pins 0 = 1
            """);
        Script.run("TAKEN after the pin ended by the clock", """
            make 0 0 = 0
            pass 0 0 1 0 = 0
            tick 12 = 1
            deliver 0 = 1
            deliver 0 = 1
            deliver 0 = 1
            message 0 0 = 1
            copy 0 = 1
            tick 11 = 1
            pins 0 = 1
            tick 1 = 1
            pins 0 = 0
            deliver 0 = 0
            """);
        Script.run("TAKEN just before the pin ends by the clock", """
            make 0 0 = 0
            pass 0 0 1 0 = 0
            tick 12 = 1
            deliver 0 = 1
            deliver 0 = 1
            deliver 0 = 1
            tick 11 = 1
            deliver 0 = 1
            pins 0 = 0
            """);
    }
}
