/** Promises 12, 13 and 17: collect, crash, slot. */
public final class CollectingTest {
    public static void main(String[] args) {
        keptByRootsAndFields();
        keptByTheRest();
        surrogates();
        refuses();
        crash();
        slot();
        Script.finish();
    }

    private static void keptByRootsAndFields() {
        Script.run("roots keep", """
            make 0 0 = 0
            make 0 1 = 1
            make 0 2 = 2
            make 0 2 = 3
            collect 0 = 1
            slot 0 2 0 = 0
            slot 0 3 0 = 1
            collect 0 = 0
            drop 0 0 = 1
            collect 0 = 1
            slot 0 0 0 = 0
            drop 0 1 = 1
            drop 0 2 = 1
            collect 0 = 2
            flight = 0
            """);
        Script.run("a chain from slot 0 to slot 7", """
            make 0 2 = 0
            make 0 0 = 1
            link 0 2 1 0 = 1
            make 0 1 = 2
            link 0 0 0 1 = 1
            make 0 0 = 3
            link 0 1 1 0 = 1
            make 0 1 = 4
            link 0 0 0 1 = 1
            make 0 0 = 5
            link 0 1 1 0 = 1
            make 0 1 = 6
            link 0 0 0 1 = 1
            make 0 0 = 7
            link 0 1 1 0 = 1
            drop 0 0 = 1
            drop 0 1 = 1
            collect 0 = 0
            slot 0 7 1 = 7
            drop 0 2 = 1
            collect 0 = 8
            slot 0 7 0 = 0
            """);
        Script.run("a chain from slot 7 to slot 0", """
            make 0 0 = 0
            make 0 1 = 1
            link 0 1 0 0 = 1
            make 0 0 = 2
            link 0 0 1 1 = 1
            make 0 1 = 3
            link 0 1 0 0 = 1
            make 0 0 = 4
            link 0 0 1 1 = 1
            make 0 1 = 5
            link 0 1 0 0 = 1
            make 0 0 = 6
            link 0 0 1 1 = 1
            make 0 1 = 7
            link 0 1 0 0 = 1
            drop 0 0 = 1
            collect 0 = 0
            slot 0 0 1 = 0
            link 0 1 0 -1 = 1
            collect 0 = 7
            slot 0 7 0 = 1
            """);
        Script.run("a ring that nobody can reach", """
            make 0 0 = 0
            make 0 1 = 1
            link 0 0 0 1 = 1
            link 0 1 0 0 = 1
            link 0 1 1 1 = 1
            drop 0 0 = 1
            collect 0 = 0
            drop 0 1 = 1
            make 0 2 = 2
            collect 0 = 2
            root 0 2 = 2
            slot 0 2 0 = 1
            """);
        Script.run("collecting at one node leaves the others", """
            make 0 0 = 0
            make 1 0 = 1
            drop 0 0 = 1
            drop 1 0 = 1
            collect 0 = 1
            slot 1 0 0 = 1
            collect 2 = 0
            """);
    }

    private static void keptByTheRest() {
        Script.run("a pin keeps its slot, and what its fields refer to, until it ends", """
            make 0 1 = 0
            make 0 0 = 1
            link 0 0 1 1 = 1
            drop 0 1 = 1
            pass 0 0 1 0 = 0
            drop 0 0 = 1
            tick 12 = 1
            tick 11 = 1
            collect 0 = 0
            tick 1 = 1
            collect 0 = 2
            """);
        Script.run("TAKEN ends the pin's keeping", Start.GOOD, """
            pass 1 0 0 1 = 1
            drop 1 0 = 1
            collect 1 = 0
            deliver 0 = 1
            collect 1 = 0
            deliver 0 = 1
            collect 1 = 1
            """);
        Script.run("a listing keeps its object, and what its fields refer to, until it ends", Start.GOOD, """
            make 0 1 = 1
            link 0 0 0 1 = 1
            drop 0 0 = 1
            drop 0 1 = 1
            crash 1 = 1
            tick 12 = 1
            tick 11 = 1
            collect 0 = 0
            listing 0 0 1 = 1
            tick 1 = 1
            collect 0 = 2
            """);
        Script.run("some listing is enough", Start.GOOD, """
            tick 6 = 1
            lose 0 = 1
            pass 0 0 3 0 = 1
            deliver 0 = 1
            deliver 0 = 1
            deliver 0 = 1
            deliver 0 = 1
            drop 0 0 = 1
            drop 1 0 = 1
            collect 1 = 1
            deliver 0 = 1
            listing 0 0 1 = 0
            collect 0 = 0
            drop 3 0 = 1
            collect 3 = 1
            deliver 0 = 1
            collect 0 = 1
            """);
        Script.run("a listing of node 0 keeps, too, and its calls are done", """
            make 1 0 = 0
            pass 1 0 0 0 = 0
            deliver 0 = 1 x 4
            call 0 0 3 = 1
            deliver 0 = 1
            slot 1 0 2 = 3
            deliver 0 = 1
            outcome 0 2 = 3
            drop 1 0 = 1
            collect 1 = 0
            tick 6 = 1
            flight = 1
            message 0 0 = 2
            message 0 1 = 0
            """);
        Script.run("a call that waits keeps its surrogate", Start.GOOD, """
            call 1 0 5 = 1
            drop 1 0 = 1
            collect 1 = 0
            deliver 0 = 1
            collect 1 = 0
            deliver 0 = 1
            outcome 1 0 = 2
            collect 1 = 1
            """);
        Script.run("a call that FAILED keeps nothing", Start.GOOD, """
            tick 12 = 1
            tick 9 = 1
            call 1 0 5 = 1
            drop 1 0 = 1
            tick 2 = 1
            collect 1 = 0
            tick 1 = 1
            outcome 1 0 = 3
            collect 1 = 1
            """);
    }

    private static void surrogates() {
        Script.run("a field keeps a surrogate; CLEANs go out from slot 0 on", """
            make 0 0 = 0
            make 3 0 = 1
            make 1 2 = 2
            make 1 1 = 3
            drop 1 2 = 1
            collect 1 = 1           # slot 0 is empty, slot 1 has object 3
            pass 3 0 1 0 = 0
            pass 0 0 1 2 = 1
            deliver 0 = 1           # object 1 in slot 0, DIRTY 1
            deliver 0 = 1           # object 0 in slot 2, DIRTY 2
            lose 0 = 1 x 2
            link 1 1 0 0 = 1
            link 1 1 1 2 = 1
            drop 1 0 = 1
            drop 1 2 = 1
            collect 1 = 0
            drop 1 1 = 1
            collect 1 = 3
            flight = 2              # none for object 3
            message 0 0 = 5
            message 0 1 = 1
            message 0 2 = 3
            message 0 3 = 1
            message 0 4 = 3
            message 0 5 = 0
            message 1 0 = 5
            message 1 1 = 1
            message 1 2 = 0
            message 1 3 = 0
            message 1 4 = 4
            message 1 5 = 0
            slot 1 0 0 = 0
            slot 1 1 0 = 0
            slot 1 2 0 = 0
            """);
        Script.run("a STALE surrogate is kept by a root and sends CLEAN when it goes", Start.STALE, """
            collect 1 = 0
            drop 1 0 = 1
            collect 1 = 1
            message 3 0 = 5
            message 3 4 = 5
            """);
        Script.run("a CLEAN that is lost has its number", Start.PENDING, """
            copy 0 = 1 x 31
            drop 1 0 = 1
            collect 1 = 1
            flight = 32
            message 31 0 = 2
            lose 0 = 1 x 32
            pass 0 0 1 0 = 1
            deliver 0 = 1
            message 0 4 = 3
            """);
    }

    private static void refuses() {
        Script.run("collect refuses", """
            make 0 0 = 0
            drop 0 0 = 1
            collect -1 = -1
            collect 4 = -1
            collect 2147483647 = -1
            crash 0 = 1
            collect 0 = -1
            slot 0 0 0 = 1
            """);
    }

    private static void crash() {
        Script.run("crash", """
            crash -1 = 0
            crash 4 = 0
            crash 2147483647 = 0
            crash -2147483648 = 0
            crash 2 = 1
            crash 2 = 0
            make 2 0 = -1
            make 1 0 = 0
            crash 0 = 1
            crash 1 = 1
            crash 3 = 1
            crash 3 = 0
            make 1 1 = -1
            """);
        Script.run("a crashed node keeps all that it has", Start.GOOD, """
            make 1 1 = 1
            link 1 1 0 0 = 1
            pass 1 1 2 0 = 1
            call 1 0 5 = 1
            crash 1 = 1
            drop 1 1 = 0
            link 1 1 1 1 = 0
            fetch 1 1 0 2 = 0
            pass 1 1 2 0 = -1
            call 1 0 1 = -1
            collect 1 = -1
            root 1 0 = 0
            root 1 1 = 1
            root 1 2 = -1
            slot 1 0 0 = 2
            slot 1 0 1 = 0
            slot 1 0 2 = 1
            slot 1 0 3 = 24
            slot 1 0 4 = 0
            slot 1 1 0 = 1
            slot 1 1 3 = 0
            slot 1 2 0 = 0
            slot 1 2 1 = -1
            listing 1 1 2 = 0
            pins 1 = 1
            outcome 1 0 = 1
            flight = 2              # what it sent stays in flight
            deliver 1 = 1
            slot 0 0 2 = 5
            deliver 0 = 1
            deliver 0 = 0           # ANSWER
            deliver 0 = 0           # DIRTY
            outcome 1 0 = 1
            """);
    }

    private static void slot() {
        Script.run("slot of an object", """
            make 0 0 = 0
            make 0 1 = 1
            link 0 1 0 0 = 1
            link 0 1 1 1 = 1
            slot 0 1 0 = 1
            slot 0 1 1 = 1
            slot 0 1 2 = 0
            slot 0 1 3 = 0
            slot 0 1 4 = 1
            slot 0 0 3 = -1
            slot 0 0 4 = -1
            slot 0 1 5 = -1
            slot 0 1 -1 = -1
            slot 0 2 0 = 0
            slot 0 2 1 = -1
            slot 0 2 2 = -1
            slot 0 2 3 = -1
            slot 0 2 4 = -1
            slot 0 2 5 = -1
            slot 0 2 -1 = -1
            """);
        Script.run("slot of a surrogate", """
            make 3 0 = 0
            make 3 0 = 1
            pass 3 0 2 0 = 0
            tick 2 = 1
            deliver 0 = 1
            slot 2 0 0 = 2
            slot 2 0 1 = 1
            slot 2 0 2 = 0
            slot 2 0 3 = 26
            slot 2 0 4 = 3
            slot 2 0 5 = -1
            slot 2 0 -1 = -1
            deliver 0 = 1
            deliver 0 = 1
            slot 2 0 2 = 1
            tick 12 = 1
            tick 11 = 1
            slot 2 0 2 = 1
            tick 1 = 1
            slot 2 0 2 = 2
            slot 2 0 3 = 26
            slot 2 0 4 = 3
            slot 2 0 1 = 1
            """);
        Script.run("slot refuses", """
            make 0 0 = 0
            slot -1 0 0 = -1
            slot 4 0 0 = -1
            slot 0 -1 0 = -1
            slot 0 8 0 = -1
            slot 2147483647 0 0 = -1
            slot 0 -2147483648 0 = -1
            slot 0 0 2147483647 = -1
            slot 0 7 0 = 0
            """);
    }
}
