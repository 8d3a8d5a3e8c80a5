/** The edges that the promises 14 to 20 name: the calls that read. */
final class EdgesOfReading {
    private EdgesOfReading() {
    }

    static void run() {
        flight();
        message();
        root();
        slot();
        slotRefuses();
        listing();
        pins();
        outcome();
    }

    private static void flight() {
        Script.edge("The number of messages in flight.", """
            flight = 0
            make 0 0 = 0
            flight = 0
            pass 0 0 1 0 = 0
            flight = 1
            copy 0 = 1 x 30
            flight = 31
            copy 0 = 1
            flight = 32
            copy 0 = 0
            flight = 32
            pass 0 0 1 0 = 1
            flight = 32
            lose 31 = 1
            flight = 31
            lose 0 = 1 x 31
            flight = 0
            """);
    }

    private static void message() {
        String message = "Of the message at place k: 0 the kind, 1 the sender, 2 the receiver, 3 SERIAL, 4 NUMBER, "
            + "5 EXTRA. NONE when k is no place or which is not 0 .. 5.";
        Script.edge(message, """
            message 0 0 = -1        # nothing in flight
            make 1 0 = 0
            make 1 0 = 1
            make 1 0 = 2
            pass 1 0 2 0 = 0
            pass 1 0 3 1 = 1
            message 1 0 = 0
            message 1 1 = 1
            message 1 2 = 3
            message 1 3 = 2
            message 1 4 = 1
            message 1 5 = 5
            message 0 2 = 2
            message 0 4 = 0
            message 0 5 = 1
            message 0 6 = -1
            message 0 -1 = -1
            message 2 0 = -1
            message -1 0 = -1
            message -1 -1 = -1
            message 2 6 = -1
            lose 1 = 1
            message 1 0 = -1        # no place any more
            """);
        Script.edge(message, """
            make 1 0 = 0
            pass 1 0 2 0 = 0
            copy 0 = 1 x 31
            message 31 0 = 0
            message 31 2 = 2
            message 32 0 = -1
            message 32 5 = -1
            """);
        Script.edge(message, Start.GOOD, """
            call 1 0 -1 = 1
            message 0 5 = -1        # a part that is -1 by itself
            deliver 0 = 1
            message 0 5 = -1
            """);
    }

    private static void root() {
        Script.edge("The slot to which the root refers (of a node that crashed, too); NONE when it refers to "
            + "nothing, or there is no such node or root.", """
            root 0 0 = -1
            make 0 0 = 0
            make 0 1 = 1
            make 0 2 = 2
            root 0 0 = 0
            root 0 1 = 1
            root 0 2 = 2
            drop 0 1 = 1
            root 0 1 = -1
            root 0 3 = -1
            root 0 -1 = -1
            root 4 0 = -1
            root -1 0 = -1
            root 1 0 = -1
            crash 0 = 1
            root 0 0 = 0
            root 0 1 = -1
            root 0 2 = 2
            root 0 3 = -1
            """);
    }

    private static void slot() {
        String slot = "Of a slot (of a node that crashed, too): 0 what it holds (0 nothing, 1 an object, 2 a "
            + "surrogate), 1 the serial, 2 of an object its value, of a surrogate 0 PENDING, 1 GOOD, 2 STALE; 3 and "
            + "4 of an object the slots that its fields 0 and 1 refer to (NONE for nothing), of a surrogate 3 the "
            + "expiry and 4 the owner.";
        Script.edge(slot, Start.GOOD, """
            make 1 1 = 1
            link 1 1 0 0 = 1
            slot 1 1 0 = 1
            slot 1 1 1 = 1
            slot 1 1 2 = 0
            slot 1 1 3 = 0
            slot 1 1 4 = -1
            link 1 1 1 1 = 1
            slot 1 1 4 = 1
            link 1 1 0 -1 = 1
            slot 1 1 3 = -1
            slot 1 2 0 = 0
            slot 1 7 0 = 0
            slot 1 0 0 = 2
            slot 1 0 1 = 0
            slot 1 0 2 = 1
            slot 1 0 3 = 24
            slot 1 0 4 = 0
            """);
        Script.edge(slot, Start.GOOD, """
            call 1 0 -1 = 1
            deliver 0 = 1
            slot 0 0 2 = -1         # a value that is -1 by itself
            slot 0 0 0 = 1
            """);
        Script.edge(slot, """
            make 3 0 = 0
            make 3 0 = 1
            pass 3 0 2 0 = 0
            tick 2 = 1
            deliver 0 = 1
            slot 2 0 0 = 2
            slot 2 0 1 = 1
            slot 2 0 2 = 0
            slot 2 0 3 = 26
            slot 2 0 4 = 3
            deliver 0 = 1
            slot 2 0 2 = 0
            deliver 0 = 1
            slot 2 0 2 = 1
            crash 2 = 1
            slot 2 0 0 = 2
            slot 2 0 1 = 1
            slot 2 0 2 = 1
            slot 2 0 3 = 26
            slot 2 0 4 = 3
            slot 2 1 0 = 0
            slot 2 1 1 = -1
            crash 3 = 1
            slot 3 1 0 = 1
            slot 3 1 1 = 1
            slot 3 1 2 = 0
            slot 3 1 3 = -1
            slot 3 2 0 = 0
            """);
    }

    private static void slotRefuses() {
        Script.edge("NONE when there is no such node or slot, which is not 0 .. 4, or for 1 to 4 when it is empty.",
            Start.GOOD, """
            slot 4 0 0 = -1
            slot -1 0 0 = -1
            slot 0 8 0 = -1
            slot 0 -1 0 = -1
            slot 0 0 5 = -1
            slot 0 0 -1 = -1
            slot 1 0 5 = -1
            slot 1 0 -1 = -1
            slot 0 1 0 = 0
            slot 0 1 1 = -1
            slot 0 1 2 = -1
            slot 0 1 3 = -1
            slot 0 1 4 = -1
            slot 0 1 5 = -1
            slot 0 1 -1 = -1
            drop 1 0 = 1
            collect 1 = 1           # empty again
            slot 1 0 0 = 0
            slot 1 0 1 = -1
            slot 1 0 2 = -1
            slot 1 0 3 = -1
            slot 1 0 4 = -1
            slot 2 7 0 = 0
            slot 2 7 1 = -1
            """);
    }

    private static void listing() {
        String listing = "How much longer the listing of a node for the object in a slot lasts; 0 when it does not; "
            + "NONE when the slot (of a node that crashed, too) holds no object, or client is no other node.";
        Script.edge(listing, Start.PENDING, """
            listing 0 0 1 = 0       # none yet
            listing 0 0 2 = 0
            listing 0 0 3 = 0
            tick 4 = 1
            deliver 0 = 1
            listing 0 0 1 = 24
            tick 12 = 1
            tick 11 = 1
            listing 0 0 1 = 1
            tick 1 = 1
            listing 0 0 1 = 0
            tick 5 = 1
            listing 0 0 1 = 0       # never less than 0
            """);
        Script.edge(listing, Start.GOOD, """
            listing 0 0 0 = -1      # itself
            listing 0 0 4 = -1
            listing 0 0 -1 = -1
            listing 0 1 1 = -1      # empty
            listing 0 7 1 = -1
            listing 0 8 1 = -1
            listing 0 -1 1 = -1
            listing 1 0 0 = -1      # a surrogate
            listing 1 0 2 = -1
            listing 4 0 1 = -1
            listing -1 0 1 = -1
            crash 0 = 1
            listing 0 0 1 = 24
            listing 0 0 2 = 0
            listing 0 0 0 = -1
            listing 0 1 1 = -1
            tick 12 = 1
            listing 0 0 1 = 12
            crash 1 = 1
            listing 1 0 0 = -1
            """);
        Script.edge(listing, Start.GOOD, """
            drop 1 0 = 1
            collect 1 = 1
            deliver 0 = 1
            listing 0 0 1 = 0       # CLEAN ended it
            drop 0 0 = 1
            collect 0 = 1
            listing 0 0 1 = -1
            """);
        for (int owner = 0; owner < 4; owner++) {
            StringBuilder script = new StringBuilder("make " + owner + " 0 = 0\n");
            for (int client = -1; client <= 4; client++) {
                boolean other = client >= 0 && client <= 3 && client != owner;
                script.append("listing " + owner + " 0 " + client + " = " + (other ? 0 : -1) + "\n");
            }
            Script.edge(listing, script.toString());
        }
    }

    private static void pins() {
        Script.edge("How many pins of the node did not end (of one that crashed, too); NONE when there is no such "
            + "node.", """
            pins 0 = 0
            pins 3 = 0
            pins 4 = -1
            pins -1 = -1
            make 3 0 = 0
            pass 3 0 1 0 = 0
            pins 3 = 1
            tick 1 = 1
            pass 3 0 1 0 = 1
            pass 3 0 1 0 = 2
            pass 3 0 1 0 = 3
            pass 3 0 1 0 = 4
            pass 3 0 1 0 = 5
            pins 3 = 6
            pins 0 = 0
            pins 1 = 0
            pins 2 = 0
            crash 3 = 1
            pins 3 = 6
            pins 4 = -1
            tick 12 = 1
            tick 10 = 1
            pins 3 = 6              # 23
            tick 1 = 1
            pins 3 = 5              # 24
            tick 1 = 1
            pins 3 = 0
            """);
    }

    private static void outcome() {
        String outcome = "Of the node's call (of one that crashed, too): 0 whether it is 0 NONE, 1 WAITING, 2 DONE "
            + "or 3 FAILED; 1 its number, 0 when there was none; 2 the RESULT of the latest call that was DONE, 0 "
            + "when there was none. NONE when there is no such node or which is not 0 .. 2.";
        Script.edge(outcome, Start.GOOD, """
            outcome 1 0 = 0         # there was none
            outcome 1 1 = 0
            outcome 1 2 = 0
            outcome 1 3 = -1
            outcome 1 -1 = -1
            outcome 4 0 = -1
            outcome -1 0 = -1
            call 1 0 5 = 1
            outcome 1 0 = 1
            outcome 1 1 = 1
            outcome 1 2 = 0         # none was DONE
            deliver 0 = 1 x 2
            outcome 1 0 = 2
            outcome 1 1 = 1
            outcome 1 2 = 5
            tick 12 = 1
            tick 9 = 1
            lose 0 = 1 x 3
            call 1 0 6 = 2
            outcome 1 0 = 1
            outcome 1 1 = 2
            outcome 1 2 = 5         # of the latest that was DONE
            tick 3 = 1
            outcome 1 0 = 3
            outcome 1 1 = 2
            outcome 1 2 = 5
            crash 1 = 1
            outcome 1 0 = 3
            outcome 1 1 = 2
            outcome 1 2 = 5
            outcome 1 3 = -1
            outcome 0 0 = 0
            outcome 0 1 = 0
            """);
        Script.edge(outcome, Start.GOOD, """
            call 1 0 -1 = 1
            crash 1 = 1
            outcome 1 0 = 1         # it waits for ever
            outcome 1 1 = 1
            deliver 0 = 1
            deliver 0 = 0
            outcome 1 0 = 1
            outcome 1 2 = 0
            crash 2 = 1
            outcome 2 0 = 0
            outcome 2 1 = 0
            outcome 2 2 = 0
            """);
        Script.edge(outcome, Start.GOOD, """
            call 1 0 -1 = 1
            deliver 0 = 1 x 2
            outcome 1 2 = -1        # a RESULT that is -1 by itself
            outcome 1 0 = 2
            """);
    }
}
