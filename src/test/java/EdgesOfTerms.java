/** The edges that "Terms" names before it comes to the messages: one script or more for each sentence. */
final class EdgesOfTerms {
    private EdgesOfTerms() {
    }

    static void run() {
        places();
        objects();
        crashedCalls();
        crashedMessages();
        crashedSenders();
        surrogates();
        flight();
        kinds();
        numbers();
        sent();
        pending();
        callsAndPins();
        refusals();
    }

    private static void places() {
        Script.edge("The CLOCK is 0 at first.", """
            make 3 0 = 0
            pass 3 0 0 0 = 0
            deliver 0 = 1
            message 0 5 = 0         # a DIRTY has the clock
            slot 0 0 3 = 24
            """);
        for (int node = 0; node < 4; node++) {
            String script = """
                pins N = 0
                root N 0 = -1
                root N 1 = -1
                root N 2 = -1
                root N 3 = -1
                root N -1 = -1
                slot N 0 0 = 0
                slot N 7 0 = 0
                slot N 8 0 = -1
                slot N -1 0 = -1
                make N 0 = 0
                make N 1 = 1
                make N 2 = 2
                make N 3 = -1
                make N -1 = -1
                root N 0 = 0
                root N 1 = 1
                root N 2 = 2
                make N 2 = 3
                make N 2 = 4
                make N 2 = 5
                make N 2 = 6
                make N 2 = 7
                make N 2 = -1           # eight slots
                slot N 7 1 = 7
                root N 2 = 7
                pass N 2 M 2 = 0
                pins N = 1
                pins M = 0
                """.replace("N", "" + node).replace("M", "" + (node + 1) % 4);
            Script.edge("NODES 0 .. 3 each have eight SLOTS 0 .. 7, three ROOTS 0 .. 2, and PINS.", script);
        }
        Script.edge("NODES 0 .. 3 each have eight SLOTS 0 .. 7, three ROOTS 0 .. 2, and PINS.", """
            make 4 0 = -1
            make -1 0 = -1
            pins 4 = -1
            pins -1 = -1
            root 4 0 = -1
            root -1 0 = -1
            slot 4 0 0 = -1
            slot -1 0 0 = -1
            """);
        for (int owner = 0; owner < 4; owner++) {
            for (int client = 0; client < 4; client++) {
                if (client != owner) {
                    eachRole(owner, client);
                }
            }
        }
        Script.edge("A slot is empty, or holds an OBJECT of the node, or a SURROGATE for an object of another node.",
            Start.GOOD, """
            slot 0 0 0 = 1
            slot 0 1 0 = 0
            slot 1 0 0 = 2
            slot 1 1 0 = 0
            pass 1 0 0 1 = 1
            deliver 0 = 1           # home again: no surrogate for an own object
            slot 0 1 0 = 0
            root 0 1 = 0
            """);
        Script.edge("A root is nothing at first, or refers to a slot that is not empty.", Start.STALE, """
            root 0 1 = -1
            root 0 2 = -1
            root 1 1 = -1
            root 2 0 = -1
            root 3 2 = -1
            collect 0 = 0
            collect 1 = 0           # even a STALE one stays
            tick 12 = 1
            collect 0 = 0
            collect 1 = 0
            slot 0 0 0 = 1
            slot 1 0 0 = 2
            root 0 0 = 0
            root 1 0 = 0
            """);
    }

    /** Every node can be an owner and a client of every other. */
    private static void eachRole(int owner, int client) {
        String script = """
            make O 1 = 0
            pass O 1 C 2 = 0
            deliver 0 = 1 x 4
            listing O 0 C = 24
            slot C 0 4 = O
            call C 2 5 = 1
            tick 6 = 1
            flight = 4              # CALL at 0, 3 and 6, DIRTY at 6
            message 2 0 = 2
            message 2 1 = C
            message 2 2 = O
            deliver 0 = 1
            slot O 0 2 = 5
            deliver 0 = 1           # CALL again
            slot O 0 2 = 5
            deliver 0 = 1           # DIRTY
            listing O 0 C = 24
            deliver 0 = 1           # CALL again
            deliver 0 = 1           # ANSWER
            outcome C 0 = 2
            outcome C 2 = 5
            deliver 0 = 0           # ANSWER again
            deliver 0 = 1           # LISTED
            slot C 0 3 = 30
            lose 0 = 1
            drop C 2 = 1
            collect C = 1
            message 0 0 = 5
            message 0 1 = C
            message 0 2 = O
            deliver 0 = 1
            listing O 0 C = 0
            drop O 1 = 1
            collect O = 1
            """.replaceAll("\\bO\\b", "" + owner).replaceAll("\\bC\\b", "" + client);
        Script.edge("NODES 0 .. 3 each have eight SLOTS 0 .. 7, three ROOTS 0 .. 2, and PINS.", script);
    }

    private static void objects() {
        Script.edge("Objects have SERIALS 0, 1, 2, .. in the order in which they are made, over all nodes; "
            + "the node that made one OWNS it.", """
            make 4 0 = -1           # a refused one takes no serial
            make 3 3 = -1
            make 3 0 = 0
            make 0 0 = 1
            drop 3 0 = 1
            collect 3 = 1
            make 3 0 = 2            # and no serial comes again
            slot 3 0 1 = 2
            make 1 0 = 3
            make 1 0 = 4
            make 1 0 = 5
            make 1 0 = 6
            make 1 0 = 7
            make 1 0 = 8
            make 1 0 = 9
            make 1 0 = 10
            make 1 0 = -1           # full: no serial either
            crash 2 = 1
            make 2 0 = -1
            make 0 1 = 11
            """);
        Script.edge("the node that made one OWNS it.", Start.GOOD, """
            pass 1 0 3 2 = 1
            message 0 5 = 8         # the owner is 0, not the sender 1
            deliver 0 = 1
            slot 3 0 4 = 0
            message 0 2 = 0
            crash 0 = 1
            slot 3 0 4 = 0
            slot 1 0 4 = 0
            """);
        String object = "An object has two FIELDS 0 and 1, each nothing or a slot of its node that is not empty, "
            + "a VALUE (an int, 0 at first), and for each other node a LAST number, 0 at first, and a LISTING, "
            + "which lasts until some time; at first there is none.";
        Script.edge(object, """
            make 1 0 = 0
            slot 1 0 2 = 0
            slot 1 0 3 = -1
            slot 1 0 4 = -1
            listing 1 0 0 = 0
            listing 1 0 1 = -1
            listing 1 0 2 = 0
            listing 1 0 3 = 0
            link 1 0 2 0 = 0
            link 1 0 -1 0 = 0
            fetch 1 0 2 1 = 0
            fetch 1 0 -1 1 = 0
            link 1 0 0 0 = 1
            link 1 0 1 0 = 1
            slot 1 0 3 = 0
            slot 1 0 4 = 0
            drop 1 0 = 1
            collect 1 = 1
            make 1 1 = 1            # in the same slot, and as new
            slot 1 0 2 = 0
            slot 1 0 3 = -1
            slot 1 0 4 = -1
            """);
        Script.edge(object, Start.PENDING, """
            message 0 4 = 1
            deliver 0 = 1           # 1 is greater than the LAST of 0
            listing 0 0 1 = 24
            listing 0 0 2 = 0
            listing 0 0 3 = 0
            """);
        Script.edge(object, Start.THREE_PENDING, """
            deliver 2 = 1           # DIRTY 3, for object 2
            deliver 0 = 1           # DIRTY 1, for object 0, which has a LAST of its own
            listing 0 0 1 = 24
            listing 0 1 1 = 0
            listing 0 2 1 = 24
            """);
        Script.edge(object, Start.GOOD, """
            call 1 0 7 = 1
            deliver 0 = 1 x 2
            drop 1 0 = 1
            collect 1 = 1
            deliver 0 = 1
            drop 0 0 = 1
            collect 0 = 1
            make 0 0 = 1
            slot 0 0 2 = 0          # 0 at first, whatever the slot held before
            listing 0 0 1 = 0
            pass 0 0 1 0 = 1
            deliver 0 = 1 x 4
            call 1 0 2 = 2
            deliver 0 = 1
            slot 0 0 2 = 2
            """);
        Script.edge(object, """
            make 0 0 = 0
            make 0 1 = 1
            link 0 0 0 1 = 1
            drop 0 1 = 1
            collect 0 = 0           # what a field refers to does not become empty
            slot 0 0 3 = 1
            slot 0 1 0 = 1
            """);
    }

    private static void crashedCalls() {
        String crashed = "A node that CRASHED does nothing any more: calls for it are refused, ";
        Script.edge(crashed, Start.GOOD, """
            make 1 1 = 1
            crash 1 = 1
            make 1 2 = -1
            link 1 1 0 0 = 0
            link 1 1 0 -1 = 0
            fetch 1 1 0 2 = 0
            drop 1 0 = 0
            drop 1 2 = 0
            pass 1 0 2 0 = -1
            pass 1 1 0 0 = -1
            call 1 0 1 = -1
            collect 1 = -1
            crash 1 = 0
            make 0 1 = 2            # no serial was taken
            pass 0 1 2 0 = 1        # nor an id
            """);
        Script.edge(crashed, Start.STALE, """
            crash 1 = 1
            pass 1 0 2 0 = -1       # NONE, and not STALE
            call 1 0 1 = -1
            """);
        Script.edge("it sends nothing and keeps all that it has.", Start.GOOD, """
            make 1 1 = 1
            link 1 1 1 0 = 1
            drop 1 0 = 1
            pass 1 1 2 0 = 1
            fetch 1 1 1 2 = 1
            call 1 2 5 = 1
            lose 0 = 1 x 2
            crash 1 = 1
            tick 12 = 1             # neither DIRTY nor CALL again
            flight = 0
            slot 1 0 0 = 2
            slot 1 0 2 = 1
            slot 1 0 3 = 24
            slot 1 1 0 = 1
            slot 1 1 4 = 0
            root 1 0 = -1
            root 1 1 = 1
            root 1 2 = 0
            pins 1 = 1
            outcome 1 0 = 1
            outcome 1 1 = 1
            tick 12 = 1
            tick 3 = 1
            flight = 0
            outcome 1 0 = 1         # it does not even fail
            slot 1 0 0 = 2
            slot 1 1 0 = 1
            """);
        Script.edge("it sends nothing and keeps all that it has.", Start.PENDING, """
            crash 1 = 1
            flight = 1              # what it sent before is in flight
            deliver 0 = 1
            listing 0 0 1 = 24
            """);
    }

    private static void crashedMessages() {
        String dropped = "messages that come to it are dropped, ";
        Script.edge(dropped, """
            make 0 0 = 0
            pass 0 0 1 0 = 0
            crash 1 = 1
            deliver 0 = 0           # PASS
            flight = 0
            slot 1 0 0 = 0
            root 1 0 = -1
            """);
        Script.edge(dropped, Start.PENDING, """
            deliver 0 = 1 x 2
            message 0 0 = 1
            crash 0 = 1
            deliver 0 = 0           # TAKEN
            pins 0 = 1
            """);
        Script.edge(dropped, Start.PENDING, """
            crash 0 = 1
            deliver 0 = 0           # DIRTY
            flight = 0
            listing 0 0 1 = 0
            """);
        Script.edge(dropped, Start.PENDING, """
            deliver 0 = 1
            crash 1 = 1
            deliver 0 = 0           # LISTED
            flight = 0
            slot 1 0 2 = 0
            slot 1 0 3 = 24
            """);
        Script.edge(dropped, Start.GONE, """
            crash 1 = 1
            deliver 0 = 0           # GONE
            slot 1 0 2 = 0
            slot 1 0 3 = 48
            """);
        Script.edge(dropped, Start.GOOD, """
            drop 1 0 = 1
            collect 1 = 1
            crash 0 = 1
            deliver 0 = 0           # CLEAN
            listing 0 0 1 = 24
            """);
        Script.edge(dropped, Start.GOOD, """
            call 1 0 5 = 1
            crash 0 = 1
            deliver 0 = 0           # CALL
            slot 0 0 2 = 0
            flight = 0
            """);
        Script.edge(dropped, Start.GOOD, """
            call 1 0 5 = 1
            deliver 0 = 1
            crash 1 = 1
            deliver 0 = 0           # ANSWER
            outcome 1 0 = 1
            outcome 1 2 = 0
            """);
        Script.edge(dropped, Start.LATE_CALL, """
            deliver 3 = 1
            message 3 0 = 8
            crash 1 = 1
            deliver 3 = 0           # NOOBJECT
            outcome 1 0 = 1
            """);
    }

    /** What a node sent before it crashed comes all the same, and what is sent to it is put into the flight. */
    private static void crashedSenders() {
        String sends = "it sends nothing and keeps all that it has.";
        Script.edge(sends, """
            make 0 0 = 0
            pass 0 0 1 0 = 0
            crash 0 = 1
            deliver 0 = 1           # PASS
            slot 1 0 2 = 0
            flight = 1
            deliver 0 = 0           # DIRTY
            tick 6 = 1
            flight = 1              # and again
            """);
        Script.edge(sends, Start.GOOD, """
            pass 1 0 0 2 = 1
            crash 1 = 1
            deliver 0 = 1           # PASS
            root 0 2 = 0
            flight = 1
            deliver 0 = 0           # TAKEN
            pins 1 = 1
            """);
        Script.edge(sends, Start.PENDING, """
            crash 1 = 1
            deliver 0 = 1           # DIRTY
            listing 0 0 1 = 24
            flight = 1
            deliver 0 = 0           # LISTED
            """);
        Script.edge(sends, Start.PENDING, """
            deliver 0 = 1
            crash 0 = 1
            deliver 0 = 1           # LISTED
            slot 1 0 2 = 1
            flight = 1
            deliver 0 = 0           # TAKEN
            """);
        Script.edge(sends, Start.PENDING, """
            deliver 0 = 1 x 2
            crash 1 = 1
            deliver 0 = 1           # TAKEN
            pins 0 = 0
            """);
        Script.edge(sends, Start.GOOD, """
            drop 1 0 = 1
            collect 1 = 1
            crash 1 = 1
            deliver 0 = 1           # CLEAN
            listing 0 0 1 = 0
            """);
        Script.edge(sends, Start.GOOD, """
            call 1 0 5 = 1
            crash 1 = 1
            deliver 0 = 1           # CALL
            slot 0 0 2 = 5
            flight = 1
            deliver 0 = 0           # ANSWER
            """);
        Script.edge(sends, Start.GOOD, """
            call 1 0 5 = 1
            deliver 0 = 1
            crash 0 = 1
            deliver 0 = 1           # ANSWER
            outcome 1 2 = 5
            call 1 0 6 = 2          # to the crashed owner
            tick 3 = 1
            flight = 2              # and again
            deliver 0 = 0 x 2
            outcome 1 0 = 1
            """);
        Script.edge(sends, Start.GONE, """
            crash 0 = 1
            deliver 0 = 1           # GONE
            slot 1 0 2 = 2
            """);
        Script.edge(sends, Start.LATE_CALL, """
            deliver 3 = 1
            crash 0 = 1
            deliver 3 = 1           # NOOBJECT
            outcome 1 0 = 3
            """);
    }

    private static void surrogates() {
        String state = "A SURROGATE has the serial, FIRST and SENT (below), an EXPIRY (a time), and a state: "
            + "it is STALE when the clock has come to its expiry; else it is PENDING or GOOD.";
        Script.edge(state, Start.PENDING, """
            slot 1 0 1 = 0
            tick 12 = 1
            tick 11 = 1
            slot 1 0 3 = 24
            slot 1 0 2 = 0          # 23: not yet
            tick 1 = 1
            slot 1 0 2 = 2          # 24: come
            tick 1 = 1
            slot 1 0 2 = 2          # 25
            """);
        Script.edge(state, Start.GOOD, """
            tick 12 = 1
            tick 11 = 1
            slot 1 0 3 = 24
            slot 1 0 2 = 1
            call 1 0 1 = 1
            pass 1 0 2 0 = 1
            tick 1 = 1
            slot 1 0 2 = 2
            slot 1 0 3 = 24
            pass 1 0 2 0 = -2
            tick 12 = 1
            slot 1 0 2 = 2
            """);
        Script.edge("It OWES a pass (a sender and an id), or nothing.", Start.GOOD, """
            pass 0 0 3 0 = 1
            pass 1 0 3 1 = 2
            deliver 1 = 1           # PASS 2 of node 1 makes it
            deliver 1 = 1
            copy 1 = 1
            deliver 1 = 1
            flight = 3
            message 0 4 = 1
            message 2 0 = 1         # TAKEN for pass 2, to node 1
            message 2 2 = 1
            message 2 4 = 2
            deliver 1 = 1           # LISTED again: it owes nothing any more
            flight = 2
            """);
    }

    private static void flight() {
        Script.edge("MESSAGES have a KIND, a sender, a receiver, a SERIAL, a NUMBER and an EXTRA.", """
            make 2 0 = 0
            make 2 0 = 1
            pass 2 0 1 2 = 0
            message 0 0 = 0
            message 0 1 = 2
            message 0 2 = 1
            message 0 3 = 1
            message 0 4 = 0
            message 0 5 = 10
            message 0 6 = -1
            message 0 -1 = -1
            """);
        String lost = "THE FLIGHT is a list of messages; what is sent is put at its end, but is lost when 32 are "
            + "in flight.";
        Script.edge(lost, """
            make 0 0 = 0
            pass 0 0 1 0 = 0
            copy 0 = 1 x 30
            flight = 31
            pass 0 0 2 1 = 1        # the 32nd is put at the end
            flight = 32
            message 31 4 = 1
            message 0 4 = 0
            pass 0 0 3 2 = 2        # the next is lost
            flight = 32
            message 31 4 = 1
            message 0 4 = 0
            """);
        Script.edge(lost, Start.GOOD, """
            pass 0 0 1 0 = 1
            copy 0 = 1 x 30
            call 1 0 5 = 1
            flight = 32
            message 31 0 = 6
            deliver 31 = 1
            deliver 31 = 1
            copy 0 = 1
            flight = 32
            call 1 0 6 = 2          # a CALL that is lost
            flight = 32
            message 31 0 = 0
            outcome 1 0 = 1
            outcome 1 1 = 2
            """);
        Script.edge(lost, Start.GOOD, """
            tick 1 = 1
            pass 0 0 1 0 = 1
            copy 0 = 1 x 31
            call 1 0 5 = 1          # lost, but sent at 1
            lose 0 = 1
            tick 2 = 1
            flight = 31
            tick 1 = 1
            flight = 32
            message 31 0 = 6
            tick 3 = 1              # at 6 a DIRTY, at 7 the CALL again, both lost
            flight = 32
            lose 0 = 1 x 32
            tick 2 = 1
            flight = 0
            tick 1 = 1
            flight = 1              # at 10
            message 0 0 = 6
            """);
        Script.edge(lost, Start.THREE_PENDING, """
            copy 0 = 1 x 28
            flight = 31
            tick 6 = 1              # of three DIRTYs one has a place
            flight = 32
            message 31 0 = 2
            message 31 3 = 0
            message 31 4 = 4
            message 31 5 = 6
            lose 0 = 1 x 32
            tick 5 = 1
            flight = 0
            tick 1 = 1
            flight = 3
            message 0 4 = 7         # the lost ones were numbered and sent
            message 0 5 = 12
            message 2 4 = 9
            """);
        Script.edge(lost, Start.THREE_PENDING, """
            copy 0 = 1 x 28
            drop 1 0 = 1
            drop 1 1 = 1
            drop 1 2 = 1
            collect 1 = 3           # of three CLEANs one has a place
            flight = 32
            message 31 0 = 5
            message 31 3 = 0
            message 31 4 = 4
            slot 1 2 0 = 0
            lose 0 = 1 x 32
            pass 0 0 1 0 = 3
            deliver 0 = 1
            message 0 4 = 7
            """);
        Script.edge(lost, """
            make 0 0 = 0
            pass 0 0 1 0 = 0
            copy 0 = 1 x 31
            deliver 31 = 1          # it leaves before the DIRTY is sent
            flight = 32
            message 31 0 = 2
            deliver 31 = 1
            flight = 32
            message 31 0 = 3
            deliver 31 = 1
            flight = 32
            message 31 0 = 1
            deliver 31 = 1
            flight = 31
            """);
    }

    /** All nine kinds, with parts that differ from one another. */
    private static void kinds() {
        Script.edge("The kinds: 0 PASS, 1 TAKEN, 2 DIRTY, 3 LISTED, 4 GONE, 5 CLEAN, 6 CALL, 7 ANSWER, 8 NOOBJECT.",
            """
            make 0 0 = 0
            make 0 0 = 1
            make 0 0 = 2
            make 3 0 = 3
            make 3 1 = 4
            make 3 2 = 5
            tick 5 = 1
            pass 0 0 1 0 = 0
            pass 0 0 1 0 = 1
            lose 0 = 1 x 2
            pass 3 2 1 1 = 2
            """, message(0, 0, 3, 1, 5, 2, 7), """
            deliver 0 = 1
            """, message(0, 2, 1, 3, 5, 1, 5), """
            tick 1 = 1
            deliver 0 = 1
            """, message(0, 3, 3, 1, 5, 1, 5), """
            deliver 0 = 1
            """, message(0, 1, 1, 3, 5, 2, 0), """
            deliver 0 = 1
            call 1 1 9 = 1
            """, message(0, 6, 1, 3, 5, 1, 9), """
            deliver 0 = 1
            """, message(0, 7, 3, 1, 5, 1, 9), """
            deliver 0 = 1
            call 1 1 4 = 2
            deliver 0 = 1
            """, message(0, 7, 3, 1, 5, 2, 13), """
            deliver 0 = 1
            pass 1 1 2 2 = 3
            """, message(0, 0, 1, 2, 5, 3, 11), """
            deliver 0 = 1
            """, message(0, 2, 2, 3, 5, 1, 6), """
            deliver 0 = 1
            """, message(0, 3, 3, 2, 5, 1, 6), """
            deliver 0 = 1
            """, message(0, 1, 2, 1, 5, 3, 0), """
            deliver 0 = 1
            drop 1 1 = 1
            collect 1 = 1
            """, message(0, 5, 1, 3, 5, 2, 0), """
            deliver 0 = 1
            drop 3 2 = 1
            tick 12 = 1
            tick 11 = 1             # DIRTYs 2, 3, 4 at 12, 18, 24
            call 2 2 8 = 1
            tick 1 = 1
            collect 3 = 1
            deliver 3 = 1
            """, message(3, 8, 3, 2, 5, 1, 0), """
            deliver 2 = 1
            """, message(3, 4, 3, 2, 5, 4, 24));
    }

    private static String message(int place, int... parts) {
        StringBuilder lines = new StringBuilder();
        for (int which = 0; which < parts.length; which++) {
            lines.append("message " + place + " " + which + " = " + parts[which] + "\n");
        }
        return lines.toString();
    }

    private static void numbers() {
        String numbers = "Each node numbers its DIRTYs and CLEANs together 1, 2, 3, ..; its calls 1, 2, 3, ..; "
            + "passes have ids 0, 1, 2, .. over all nodes.";
        Script.edge(numbers, Start.GOOD, """
            tick 6 = 1
            message 0 4 = 2         # a DIRTY
            drop 1 0 = 1
            collect 1 = 1
            message 1 0 = 5
            message 1 4 = 3         # a CLEAN
            pass 0 0 1 0 = 1
            deliver 2 = 1
            message 2 0 = 2
            message 2 4 = 4         # a DIRTY again
            pass 0 0 2 0 = 2
            deliver 3 = 1
            message 3 0 = 2
            message 3 1 = 2
            message 3 4 = 1         # another node's first
            """);
        Script.edge(numbers, Start.GOOD, """
            pass 0 0 2 0 = 1
            deliver 0 = 1 x 4
            call 1 0 1 = 1
            call 1 0 1 = -1         # a refused one takes no number
            deliver 0 = 1 x 2
            call 1 0 1 = 2
            deliver 0 = 1 x 2
            call 2 0 1 = 1          # each node counts its own
            tick 3 = 1
            message 1 0 = 6
            message 1 4 = 1         # sent again with the same number
            """);
        Script.edge(numbers, Start.GOOD, """
            pass 0 0 0 0 = -1
            pass 1 1 2 0 = -1
            pass 1 0 2 0 = 1
            pass 0 0 2 0 = 2
            deliver 0 = 1
            pass 2 0 3 0 = -2       # a refused one takes no id
            pass 1 0 3 0 = 3
            """);
    }

    private static void sent() {
        String sent = "A node SENDS A DIRTY for a surrogate: to the owner, with the serial, the node's next number, "
            + "and the clock as EXTRA; the surrogate's SENT is the clock then.";
        Script.edge(sent, """
            make 3 0 = 0
            make 3 1 = 1
            tick 4 = 1
            pass 3 1 2 0 = 0
            tick 3 = 1
            deliver 0 = 1
            message 0 0 = 2
            message 0 1 = 2
            message 0 2 = 3
            message 0 3 = 1
            message 0 4 = 1
            message 0 5 = 7
            tick 5 = 1
            flight = 1              # SENT at 7: at 12 not yet
            tick 1 = 1
            flight = 2              # at 13
            message 1 0 = 2
            message 1 1 = 2
            message 1 2 = 3
            message 1 3 = 1
            message 1 4 = 2
            message 1 5 = 13
            tick 5 = 1
            flight = 2
            tick 1 = 1
            flight = 3              # at 19
            """);
        Script.edge(sent, Start.PENDING, """
            tick 3 = 1
            deliver 0 = 1 x 3       # LISTED at 3 is no sending
            tick 2 = 1
            flight = 0
            tick 1 = 1
            flight = 1
            message 0 5 = 6
            """);
        Script.edge(sent, Start.STALE, """
            lose 0 = 1 x 3
            tick 2 = 1
            pass 0 0 1 0 = 1
            deliver 0 = 1           # PENDING again: SENT at 26
            flight = 1
            tick 5 = 1
            flight = 1
            tick 1 = 1
            flight = 2
            message 1 5 = 32
            """);
    }

    private static void pending() {
        String becomes = "A surrogate BECOMES PENDING: it is PENDING, its expiry is the clock + 24, a DIRTY is sent "
            + "for it, its FIRST is the number of that DIRTY, and it OWES the pass that came.";
        Script.edge(becomes, """
            make 0 0 = 0
            tick 5 = 1
            pass 0 0 1 0 = 0
            deliver 0 = 1
            slot 1 0 2 = 0
            slot 1 0 3 = 29
            flight = 1
            message 0 0 = 2
            deliver 0 = 1
            deliver 0 = 1           # LISTED with the FIRST itself
            slot 1 0 2 = 1
            message 0 0 = 1
            message 0 4 = 0
            """);
        Script.edge(becomes, Start.STALE, """
            slot 1 0 2 = 2
            pass 0 0 1 0 = 1
            deliver 3 = 1
            slot 1 0 2 = 0
            slot 1 0 3 = 48
            message 3 0 = 2
            message 3 4 = 5         # FIRST is 5
            deliver 2 = 1           # DIRTY 4
            message 3 0 = 3
            message 3 4 = 4
            deliver 3 = 0           # LISTED 4 is less
            slot 1 0 2 = 0
            deliver 2 = 1
            deliver 2 = 1           # LISTED 5 is not
            slot 1 0 2 = 1
            message 2 0 = 1
            message 2 4 = 1         # it owed pass 1, not pass 0
            """);
        Script.edge(becomes, """
            make 2 0 = 0
            make 0 0 = 1
            pass 2 0 3 0 = 0
            pass 0 0 1 0 = 1
            deliver 1 = 1           # it owes pass 1
            lose 0 = 1 x 2
            tick 12 = 1
            tick 12 = 1
            slot 1 0 2 = 2
            lose 0 = 1 x 3
            pass 0 0 1 0 = 2
            deliver 0 = 1           # and now pass 2
            deliver 0 = 1 x 2
            message 0 0 = 1
            message 0 4 = 2
            """);
    }

    private static void callsAndPins() {
        String call = "CALLS. A node has a call, which is 0 NONE at first, 1 WAITING, 2 DONE or 3 FAILED; "
            + "it belongs to a surrogate.";
        Script.edge(call, Start.GOOD, """
            outcome 0 0 = 0
            outcome 1 0 = 0
            outcome 2 0 = 0
            outcome 3 0 = 0
            call 1 0 1 = 1
            outcome 1 0 = 1
            outcome 0 0 = 0
            deliver 0 = 1
            outcome 1 0 = 1
            deliver 0 = 1
            outcome 1 0 = 2
            tick 12 = 1
            outcome 1 0 = 2
            """);
        Script.edge(call, Start.LATE_CALL, """
            outcome 1 0 = 1
            deliver 3 = 1
            deliver 3 = 1
            outcome 1 0 = 3
            """);
        Script.edge(call, Start.GOOD, """
            make 0 1 = 1
            pass 0 1 1 1 = 1
            deliver 0 = 1 x 4
            call 1 1 8 = 1
            drop 1 1 = 1
            drop 1 0 = 1
            collect 1 = 1           # the surrogate of the call stays, the other goes
            slot 1 0 0 = 0
            slot 1 1 0 = 2
            tick 3 = 1
            flight = 3
            message 2 0 = 6         # for its own surrogate, though no root refers to it
            message 2 3 = 1
            message 2 5 = 8
            """);
        String pin = "PINS. A pin has an id and a slot; it ends when TAKEN comes for it, or when the clock has come "
            + "to the time it was made + 24.";
        Script.edge(pin, """
            make 0 0 = 0
            tick 2 = 1
            pass 0 0 1 0 = 0
            tick 3 = 1
            pass 0 0 1 0 = 1
            drop 0 0 = 1
            tick 12 = 1
            tick 8 = 1
            pins 0 = 2              # 25
            tick 1 = 1
            pins 0 = 1              # 26
            tick 2 = 1
            pins 0 = 1              # 28
            collect 0 = 0
            tick 1 = 1
            pins 0 = 0              # 29
            collect 0 = 1
            """);
        Script.edge(pin, Start.PENDING, """
            pass 0 0 2 0 = 1
            deliver 0 = 1           # DIRTY
            deliver 1 = 1           # LISTED
            pins 0 = 2
            deliver 1 = 1           # TAKEN for pass 0
            pins 0 = 1
            tick 12 = 1
            tick 11 = 1
            pins 0 = 1
            tick 1 = 1
            pins 0 = 0
            """);
    }

    private static void refusals() {
        Script.edge("A call that answers NONE, STALE or false changes nothing.", Start.PENDING, """
            make 1 0 = 1
            make 1 0 = 2
            make 1 0 = 3
            make 1 0 = 4
            make 1 0 = 5
            make 1 0 = 6
            make 1 0 = 7
            make 1 0 = -1           # NONE: root 0 stays, no serial is taken
            root 1 0 = 7
            make 0 1 = 8
            copy 0 = 1 x 31
            copy 0 = 0
            tick 0 = 0
            tick 13 = 0
            fetch 0 2 0 0 = 0       # false: root 0 stays
            root 0 0 = 0
            link 0 2 0 0 = 0
            deliver 32 = -1
            lose 32 = 0
            collect 4 = -1
            """);
        Script.edge("A call that answers NONE, STALE or false changes nothing.", Start.PENDING, """
            pass 1 0 2 0 = -2       # STALE: no pin, no id, nothing sent
            pins 1 = 0
            flight = 1
            call 1 0 1 = -2         # STALE: no number, no call
            outcome 1 0 = 0
            outcome 1 1 = 0
            flight = 1
            pass 0 0 2 0 = 1
            """);
        Script.edge("A node, root or field that is not there, or a node that crashed, makes a call answer NONE or "
            + "false.", Start.GOOD, """
            make 4 0 = -1
            make 0 3 = -1
            link 4 0 0 0 = 0
            link 0 3 0 0 = 0
            link 0 0 2 0 = 0
            link 0 0 0 3 = 0
            fetch -1 0 0 0 = 0
            fetch 0 -1 0 0 = 0
            fetch 0 0 -1 0 = 0
            fetch 0 0 0 -1 = 0
            drop 4 0 = 0
            drop 0 3 = 0
            pass 4 0 1 0 = -1
            pass 0 3 1 0 = -1
            pass 0 0 4 0 = -1
            pass 0 0 1 3 = -1
            call 4 0 1 = -1
            call 1 3 1 = -1
            collect 4 = -1
            crash 4 = 0
            crash 0 = 1
            make 0 1 = -1
            link 0 0 0 0 = 0
            fetch 0 0 0 1 = 0
            drop 0 0 = 0
            pass 0 0 1 0 = -1
            collect 0 = -1
            crash 0 = 0
            crash 1 = 1
            call 1 0 1 = -1
            """);
    }
}
