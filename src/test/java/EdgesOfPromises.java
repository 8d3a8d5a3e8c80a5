/** The edges that the promises 1 to 11 name. */
final class EdgesOfPromises {
    private EdgesOfPromises() {
    }

    static void run() {
        newObject();
        make();
        link();
        fetch();
        drop();
        pass();
        passRefuses();
        call();
        callRefuses();
        deliver();
        loseAndCopy();
        tick();
        tickSends();
        tickCalls();
    }

    private static void newObject() {
        StringBuilder script = new StringBuilder("flight = 0\nmessage 0 0 = -1\n");
        for (int node = 0; node < 4; node++) {
            for (int k = 0; k < 8; k++) {
                script.append("slot " + node + " " + k + " 0 = 0\n");
                script.append("slot " + node + " " + k + " 1 = -1\n");
            }
            script.append("pins " + node + " = 0\noutcome " + node + " 0 = 0\ncollect " + node + " = 0\n");
        }
        for (int node = 0; node < 4; node++) {
            script.append("make " + node + " 0 = " + node + "\n");
        }
        script.append("flight = 0\ndeliver 0 = -1\nlose 0 = 0\ncopy 0 = 0\n");
        Script.edge("All nodes, all slots empty, nothing in flight.", script.toString());
    }

    private static void make() {
        String make = "Makes an object in the least empty slot of the node, to which the root then refers: its serial.";
        Script.edge(make, """
            make 0 0 = 0
            make 0 1 = 1
            make 0 2 = 2
            make 0 2 = 3            # the root leaves object 2
            root 0 2 = 3
            slot 0 2 0 = 1
            collect 0 = 1
            drop 0 0 = 1
            collect 0 = 1           # the slots 0 and 2 are empty
            make 0 2 = 4
            root 0 2 = 0
            slot 0 0 1 = 4
            make 0 0 = 5
            root 0 0 = 2
            slot 0 2 1 = 5
            root 0 1 = 1
            flight = 0
            """);
        String full = "NONE, too, when no slot is empty.";
        Script.edge(full, """
            make 0 0 = 0
            make 0 1 = 1
            make 0 1 = 2
            make 0 1 = 3
            make 0 1 = 4
            make 0 1 = 5
            make 0 1 = 6
            make 0 1 = 7            # the eighth
            make 0 0 = -1
            make 0 1 = -1
            make 0 2 = -1
            root 0 0 = 0
            root 0 1 = 7
            root 0 2 = -1
            make 1 0 = 8            # another node has room
            drop 0 1 = 1
            make 0 1 = -1           # a slot is not empty before it is collected
            collect 0 = 7
            make 0 1 = 9
            root 0 1 = 1
            """);
        Script.edge(full, Start.PENDING, """
            make 1 1 = 1
            make 1 1 = 2
            make 1 1 = 3
            make 1 1 = 4
            make 1 1 = 5
            make 1 1 = 6
            make 1 1 = 7
            make 1 1 = -1           # a surrogate takes a slot, too
            """);
    }

    private static void link() {
        String link = "The field of the object to which the root refers becomes what root from refers to, or "
            + "nothing if from is -1 or refers to nothing.";
        Script.edge(link, Start.GOOD, """
            make 1 1 = 1
            link 1 1 0 0 = 1        # a surrogate
            link 1 1 1 1 = 1        # the object itself
            slot 1 1 3 = 0
            slot 1 1 4 = 1
            link 1 1 0 -1 = 1       # from is -1
            slot 1 1 3 = -1
            slot 1 1 4 = 1
            link 1 1 0 -1 = 1       # it is nothing already
            link 1 1 1 2 = 1        # root 2 refers to nothing
            slot 1 1 4 = -1
            link 1 1 1 -2 = 0
            link 1 1 1 3 = 0
            link 1 1 0 0 = 1
            link 1 1 2 -1 = 0
            link 1 1 -1 -1 = 0
            slot 1 1 3 = 0
            """);
        Script.edge(link, Start.STALE, """
            make 1 2 = 1
            link 1 2 0 0 = 1        # a STALE surrogate
            slot 1 1 3 = 0
            """);
        Script.edge("False, too, when the root does not refer to an object.", Start.GOOD, """
            make 1 1 = 1
            link 1 2 0 1 = 0        # nothing
            link 1 2 0 -1 = 0
            link 1 0 0 1 = 0        # a surrogate
            link 1 0 1 -1 = 0
            """);
    }

    private static void fetch() {
        String fetch = "Root into refers to what the field of the object to which the root refers refers to "
            + "(perhaps nothing: then it refers to nothing).";
        Script.edge(fetch, Start.GOOD, """
            make 1 1 = 1
            link 1 1 1 0 = 1
            fetch 1 1 1 2 = 1       # a surrogate
            root 1 2 = 0
            fetch 1 1 0 2 = 1       # nothing
            root 1 2 = -1
            fetch 1 1 0 2 = 1       # nothing for nothing
            root 1 2 = -1
            link 1 1 0 1 = 1
            fetch 1 1 0 1 = 1       # the root that it starts from, and the same object
            root 1 1 = 1
            fetch 1 1 1 1 = 1
            root 1 1 = 0
            """);
        Script.edge(fetch, """
            make 0 0 = 0
            fetch 0 0 1 0 = 1       # nothing, into the root that it starts from
            root 0 0 = -1
            fetch 0 0 1 0 = 0
            collect 0 = 1
            """);
        Script.edge("False, too, when the root does not refer to an object.", Start.GOOD, """
            fetch 1 0 0 1 = 0       # a surrogate
            fetch 1 0 1 0 = 0
            fetch 1 2 0 0 = 0       # nothing: root 0 stays
            root 1 0 = 0
            """);
    }

    private static void drop() {
        Script.edge("The root refers to nothing (it may be so already).", """
            make 0 0 = 0
            make 0 1 = 1
            drop 0 0 = 1
            root 0 0 = -1
            root 0 1 = 1
            slot 0 0 0 = 1
            drop 0 0 = 1            # it is so already
            drop 0 2 = 1            # it was never otherwise
            root 0 2 = -1
            drop 3 2 = 1
            drop 0 3 = 0
            drop 0 -1 = 0
            drop 4 0 = 0
            drop -1 0 = 0
            """);
    }

    private static void pass() {
        String pass = "Passes what the root refers to on to root into of node to: a pin for its slot with the next "
            + "id is made (also if what is sent is lost), and PASS with the serial, this id and EXTRA is sent. "
            + "Answers the id.";
        Script.edge(pass, """
            make 2 0 = 0
            make 2 1 = 1
            pass 2 1 3 2 = 0
            flight = 1
            message 0 0 = 0
            message 0 1 = 2
            message 0 2 = 3
            message 0 3 = 1
            message 0 4 = 0
            message 0 5 = 10
            pins 2 = 1
            pins 3 = 0
            drop 2 0 = 1
            drop 2 1 = 1
            collect 2 = 1           # the pin is for slot 1
            slot 2 1 0 = 1
            """);
        Script.edge(pass, """
            make 0 0 = 0
            pass 0 0 1 0 = 0
            copy 0 = 1 x 31
            pass 0 0 2 0 = 1        # lost: the pin is made, the id is used
            flight = 32
            pins 0 = 2
            drop 0 0 = 1
            tick 12 = 1
            lose 0 = 1 x 32
            collect 0 = 0
            make 0 0 = 1
            pass 0 0 1 0 = 2
            """);
        Script.edge("(to may have crashed.)", """
            make 0 0 = 0
            crash 1 = 1
            pass 0 0 1 0 = 0
            flight = 1
            pins 0 = 1
            deliver 0 = 0
            pins 0 = 1
            """);
    }

    private static void passRefuses() {
        String none = "NONE, too, when to is the node itself, the root refers to nothing, or six pins of the node "
            + "did not end; else STALE when it refers to a surrogate that is not GOOD.";
        Script.edge(none, """
            make 0 0 = 0
            make 3 0 = 1
            pass 0 0 0 0 = -1       # the node itself
            pass 0 0 0 1 = -1
            pass 3 0 3 0 = -1
            pass 0 1 1 0 = -1       # nothing
            pass 1 0 0 0 = -1
            pass 0 0 4 0 = -1       # no node
            pass 0 0 -1 0 = -1
            pass 0 0 1 3 = -1       # no root
            pass 0 0 1 -1 = -1
            pass 0 0 1 0 = 0
            """);
        Script.edge(none, """
            make 0 0 = 0
            pass 0 0 1 0 = 0
            tick 1 = 1
            pass 0 0 1 0 = 1
            pass 0 0 1 0 = 2
            pass 0 0 1 0 = 3
            pass 0 0 1 0 = 4
            pins 0 = 5
            pass 0 0 1 0 = 5        # the sixth
            pins 0 = 6
            pass 0 0 1 0 = -1
            pass 0 0 2 2 = -1
            pins 0 = 6
            make 1 0 = 1
            pass 1 0 2 0 = 6        # six pins of another node do not matter
            tick 12 = 1
            tick 10 = 1
            pass 0 0 1 0 = -1       # at 23
            tick 1 = 1
            pins 0 = 5
            pass 0 0 1 0 = 7        # at 24 one did end
            pass 0 0 1 0 = -1
            """);
        Script.edge(none, Start.GOOD, """
            pass 0 0 1 0 = 1
            pass 0 0 2 0 = 2
            pass 0 0 2 0 = 3
            pass 0 0 2 0 = 4
            pass 0 0 2 0 = 5
            pass 0 0 2 0 = 6
            pass 0 0 2 0 = -1
            deliver 0 = 1
            deliver 5 = 1           # TAKEN ends one
            pins 0 = 5
            pass 0 0 2 0 = 7
            pass 0 0 2 0 = -1
            """);
        Script.edge(none, Start.PENDING, """
            pass 1 0 2 0 = -2       # PENDING
            pass 1 0 0 0 = -2       # to its owner, too
            pass 1 0 1 0 = -1       # NONE goes first: itself
            pass 1 0 4 0 = -1
            pass 1 0 2 3 = -1
            crash 2 = 1
            pass 1 0 2 0 = -2
            deliver 0 = 1 x 2
            pass 1 0 2 0 = 1        # GOOD
            tick 12 = 1
            tick 11 = 1
            pass 1 0 2 0 = 2        # still at 23
            tick 1 = 1
            pass 1 0 2 0 = -2       # STALE at 24
            pass 1 0 1 0 = -1
            pass 1 1 2 0 = -1
            """);
        Script.edge(none, Start.STALE, """
            make 1 1 = 1
            pass 1 1 2 0 = 1
            pass 1 1 2 0 = 2
            pass 1 1 2 0 = 3
            pass 1 1 2 0 = 4
            pass 1 1 2 0 = 5
            pass 1 0 2 0 = -2       # five pins
            pass 1 1 2 0 = 6
            pass 1 0 2 0 = -1       # six: NONE goes first
            """);
    }

    private static void call() {
        String call = "The node's call becomes a new one, WAITING, for the surrogate to which the root refers; CALL "
            + "with the serial, the number and the amount is sent to the owner. Answers the number.";
        Script.edge(call, """
            make 3 0 = 0
            make 3 1 = 1
            pass 3 1 2 1 = 0
            deliver 0 = 1 x 4
            call 2 1 -2147483648 = 1
            outcome 2 0 = 1
            outcome 2 1 = 1
            flight = 1
            message 0 0 = 6
            message 0 1 = 2
            message 0 2 = 3
            message 0 3 = 1
            message 0 4 = 1
            message 0 5 = -2147483648
            deliver 0 = 1 x 2
            outcome 2 0 = 2
            call 2 1 2147483647 = 2 # after one that is DONE
            outcome 2 0 = 1
            outcome 2 1 = 2
            message 0 5 = 2147483647
            slot 3 1 2 = -2147483648
            """);
        Script.edge(call, Start.LATE_CALL, """
            deliver 3 = 1 x 2
            outcome 1 0 = 3
            make 2 0 = 1
            lose 0 = 1 x 3
            pass 2 0 1 1 = 1
            deliver 0 = 1 x 4
            call 1 1 0 = 2          # after one that FAILED
            outcome 1 0 = 1
            message 0 3 = 1
            message 0 2 = 2
            """);
    }

    private static void callRefuses() {
        String none = "NONE, too, when the node's call is WAITING or the root does not refer to a surrogate; else "
            + "STALE when this is not GOOD.";
        Script.edge(none, Start.GOOD, """
            call 0 0 1 = -1         # an object
            call 1 1 1 = -1         # nothing
            call 2 0 1 = -1
            call 1 0 1 = 1
            call 1 0 1 = -1         # it is WAITING
            call 1 1 1 = -1
            lose 0 = 1
            tick 12 = 1
            tick 11 = 1
            call 1 0 1 = -1         # WAITING still, and GOOD
            tick 1 = 1
            slot 1 0 2 = 2
            outcome 1 0 = 3
            call 1 0 1 = -2         # STALE, and no call waits
            """);
        Script.edge(none, Start.PENDING, """
            call 1 0 1 = -2         # PENDING
            deliver 0 = 1
            call 1 0 1 = -2
            deliver 0 = 1
            call 1 0 1 = 1          # GOOD
            """);
        Script.edge(none, Start.GOOD, """
            tick 12 = 1
            tick 11 = 1
            call 1 0 1 = 1          # at 23
            """);
        Script.edge(none, Start.STALE, """
            call 1 0 1 = -2         # at 24
            call 1 1 1 = -1
            outcome 1 0 = 0
            """);
        Script.edge(none, Start.GOOD, """
            tick 12 = 1
            tick 10 = 1
            call 1 0 1 = 1
            tick 2 = 1
            slot 1 0 2 = 2
            call 1 0 1 = -1         # WAITING goes before STALE
            """);
    }

    private static void deliver() {
        String deliver = "Takes the message at place k of the flight (0 is the oldest) out, and it comes to its "
            + "receiver. Answers 0 when it is dropped, 1 when not. NONE when k is no place.";
        Script.edge(deliver, """
            deliver 0 = -1          # nothing in flight
            deliver -1 = -1
            make 0 0 = 0
            pass 0 0 1 0 = 0
            pass 0 0 2 0 = 1
            pass 0 0 3 0 = 2
            deliver 3 = -1
            deliver -1 = -1
            deliver 2147483647 = -1
            deliver -2147483648 = -1
            deliver 2 = 1           # the newest
            slot 3 0 0 = 2
            slot 1 0 0 = 0
            slot 2 0 0 = 0
            message 2 0 = 2
            deliver 1 = 1           # one between
            slot 2 0 0 = 2
            slot 1 0 0 = 0
            message 0 4 = 0
            message 1 1 = 3
            message 2 1 = 2
            crash 1 = 1
            deliver 0 = 0           # the oldest, dropped
            flight = 2
            message 0 1 = 3
            deliver 2 = -1
            """);
        Script.edge(deliver, """
            make 0 0 = 0
            pass 0 0 1 0 = 0
            copy 0 = 1 x 31
            deliver 32 = -1
            pass 0 0 2 0 = 1
            crash 1 = 1
            deliver 31 = 0          # the last of 32
            flight = 31
            deliver 31 = -1
            pass 0 0 2 0 = 2
            flight = 32
            message 31 4 = 2
            """);
    }

    private static void loseAndCopy() {
        Script.edge("Takes the message at place k out of the flight; false when k is no place.", """
            lose 0 = 0              # nothing in flight
            lose -1 = 0
            make 0 0 = 0
            pass 0 0 1 0 = 0
            pass 0 0 2 0 = 1
            pass 0 0 3 0 = 2
            lose 3 = 0
            lose -1 = 0
            lose 2147483647 = 0
            lose -2147483648 = 0
            lose 1 = 1
            flight = 2
            message 0 4 = 0
            message 1 4 = 2
            lose 2 = 0
            lose 1 = 1
            lose 0 = 1
            flight = 0
            lose 0 = 0
            slot 1 0 0 = 0
            pins 0 = 3
            """);
        String copy = "Puts a copy of the message at place k at the end of the flight; false when k is no place or "
            + "32 are in flight.";
        Script.edge(copy, """
            copy 0 = 0              # nothing in flight
            copy -1 = 0
            make 0 0 = 0
            pass 0 0 1 0 = 0
            pass 0 0 2 1 = 1
            pass 0 0 3 2 = 2
            copy 3 = 0
            copy -1 = 0
            copy 2147483647 = 0
            copy -2147483648 = 0
            copy 1 = 1
            flight = 4
            message 3 0 = 0
            message 3 1 = 0
            message 3 2 = 2
            message 3 3 = 0
            message 3 4 = 1
            message 3 5 = 4
            message 1 4 = 1
            message 2 4 = 2
            copy 3 = 1              # a copy of the copy
            message 4 4 = 1
            copy 2 = 1 x 26
            flight = 31
            copy 0 = 1              # the 32nd
            flight = 32
            message 31 4 = 0
            copy 0 = 0
            copy 31 = 0
            copy 32 = 0
            lose 0 = 1
            copy 31 = 0             # 31 in flight: no place 31
            copy 30 = 1
            message 31 4 = 0
            """);
    }

    private static void tick() {
        String times = "n times (1 .. 12, else false): the clock grows by 1; then for the nodes 0 to 3 that did not "
            + "crash: ";
        Script.edge(times, Start.PENDING, """
            tick 0 = 0
            tick 13 = 0
            tick -1 = 0
            tick -12 = 0
            tick 2147483647 = 0
            tick -2147483648 = 0
            deliver 0 = 1
            listing 0 0 1 = 24
            tick 1 = 1
            listing 0 0 1 = 23
            tick 12 = 1
            listing 0 0 1 = 11
            tick 11 = 1
            listing 0 0 1 = 0
            """);
        Script.edge(times, Start.GOOD, """
            pass 0 0 2 0 = 1
            pass 0 0 3 0 = 2
            deliver 0 = 1 x 2
            deliver 0 = 1 x 6
            flight = 0
            crash 2 = 1
            tick 6 = 1
            flight = 2              # the nodes 1 and 3
            message 0 1 = 1
            message 1 1 = 3
            """);
        Script.edge(times, """
            make 0 0 = 0
            pass 0 0 1 0 = 0
            crash 0 = 1
            crash 1 = 1
            crash 2 = 1
            crash 3 = 1
            tick 12 = 1             # the clock goes on
            pins 0 = 1
            tick 12 = 1
            pins 0 = 0
            """);
        Script.edge(times, Start.GOOD, """
            call 1 0 5 = 1
            lose 0 = 1
            tick 12 = 1             # the same as twelve times tick 1
            flight = 6
            message 0 0 = 6         # at 3
            message 1 0 = 2         # at 6
            message 1 5 = 6
            message 2 0 = 6
            message 3 0 = 6         # at 9
            message 4 0 = 2         # at 12
            message 4 5 = 12
            message 5 0 = 6
            """);
    }

    private static void tickSends() {
        String dirty = "for slots 0 to 7, a DIRTY is sent for a surrogate that is not STALE and whose SENT was 6 or "
            + "more ago; ";
        Script.edge(dirty, Start.GOOD, """
            tick 5 = 1
            flight = 0              # 5 ago
            tick 1 = 1
            flight = 1              # 6 ago
            message 0 0 = 2
            message 0 5 = 6
            tick 5 = 1
            flight = 1
            tick 1 = 1
            flight = 2
            message 1 5 = 12
            """);
        Script.edge(dirty, Start.GOOD, """
            tick 12 = 1
            tick 6 = 1
            flight = 3
            tick 5 = 1
            flight = 3
            tick 1 = 1
            slot 1 0 2 = 2
            flight = 3              # at 24 its SENT was 6 ago, but it is STALE
            """);
        Script.edge(dirty, """
            make 1 0 = 0
            make 1 0 = 1
            make 1 0 = 2
            make 1 0 = 3
            make 1 0 = 4
            make 1 0 = 5
            make 1 0 = 6
            make 0 0 = 7
            pass 0 0 1 1 = 0
            deliver 0 = 1 x 4
            slot 1 7 2 = 1
            tick 6 = 1
            flight = 1              # slot 7, too
            message 0 3 = 7
            """);
        Script.edge(dirty, """
            make 0 0 = 0
            make 0 1 = 1
            pass 0 0 3 0 = 0
            pass 0 1 3 1 = 1
            deliver 1 = 1           # object 1 in slot 0
            tick 1 = 1
            deliver 0 = 1           # object 0 in slot 1
            lose 0 = 1 x 2
            tick 5 = 1
            flight = 1
            message 0 3 = 1
            tick 1 = 1
            flight = 2
            message 1 3 = 0
            """);
    }

    private static void tickCalls() {
        String again = "then, if its call WAITS and the latest sending of it was 3 or more ago: if its surrogate is "
            + "STALE, it FAILED, else CALL is sent again.";
        Script.edge(again, Start.GOOD, """
            tick 1 = 1
            call 1 0 5 = 1
            lose 0 = 1
            tick 2 = 1
            flight = 0              # 2 ago
            tick 1 = 1
            flight = 1              # 3 ago
            message 0 0 = 6
            message 0 1 = 1
            message 0 2 = 0
            message 0 3 = 0
            message 0 4 = 1
            message 0 5 = 5
            lose 0 = 1
            tick 1 = 1
            flight = 0
            tick 2 = 1
            flight = 2              # the latest sending counts
            message 0 0 = 2
            message 1 0 = 6
            deliver 1 = 1
            deliver 1 = 1
            outcome 1 0 = 2
            tick 4 = 1
            flight = 1              # it does not wait any more
            """);
        Script.edge(again, Start.GOOD, """
            tick 12 = 1
            tick 8 = 1
            lose 0 = 1 x 3
            call 1 0 5 = 1
            lose 0 = 1
            tick 3 = 1
            flight = 1              # at 23 it is GOOD
            message 0 0 = 6
            outcome 1 0 = 1
            tick 2 = 1
            outcome 1 0 = 1         # at 25 it is STALE, but it was sent 2 ago
            tick 1 = 1
            outcome 1 0 = 3
            flight = 1
            """);
        Script.edge(again, Start.GOOD, """
            tick 12 = 1
            tick 9 = 1
            lose 0 = 1 x 3
            call 1 0 5 = 1
            lose 0 = 1
            tick 2 = 1
            outcome 1 0 = 1
            tick 1 = 1
            outcome 1 0 = 3         # at 24 it is due, and STALE in the same moment
            flight = 0
            outcome 1 1 = 1
            tick 12 = 1
            flight = 0
            outcome 1 0 = 3
            """);
        Script.edge(again, Start.GOOD, """
            tick 12 = 1
            tick 11 = 1
            lose 0 = 1 x 3
            call 1 0 5 = 1
            lose 0 = 1
            tick 1 = 1
            pass 0 0 1 1 = 1
            deliver 0 = 1
            slot 1 0 2 = 0
            lose 0 = 1
            tick 2 = 1
            flight = 1              # PENDING is not STALE
            message 0 0 = 6
            outcome 1 0 = 1
            """);
    }
}
