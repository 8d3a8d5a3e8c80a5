/** The edges that "Terms" names where it says what happens when a message comes to a node. */
final class EdgesOfMessages {
    private EdgesOfMessages() {
    }

    static void run() {
        passTaken();
        passPending();
        passNew();
        taken();
        dirty();
        listedAndGone();
        listed();
        clean();
        call();
        callAgain();
        reply();
    }

    private static void passTaken() {
        String had = "When a message comes to a node: PASS (NUMBER the id, EXTRA 4 * the number of a root + the "
            + "owner): if the node owns the object and has it, or has a GOOD surrogate for it, the root refers to "
            + "it, and TAKEN is sent to the sender, with the serial, the NUMBER and EXTRA 0.";
        Script.edge(had, """
            make 3 0 = 0
            pass 3 0 0 2 = 0
            message 0 5 = 11        # the greatest: 4 * 2 + 3
            deliver 0 = 1
            root 0 2 = 0
            root 0 0 = -1
            root 0 1 = -1
            slot 0 0 4 = 3
            """);
        Script.edge(had, """
            make 0 0 = 0
            pass 0 0 3 0 = 0
            message 0 5 = 0         # the least: 4 * 0 + 0
            deliver 0 = 1
            root 3 0 = 0
            slot 3 0 4 = 0
            """);
        Script.edge(had, Start.GOOD, """
            make 0 1 = 1
            drop 0 0 = 1
            pass 1 0 0 1 = 1
            deliver 0 = 1           # it owns the object and has it, though only the listing keeps it
            root 0 1 = 0
            root 0 0 = -1
            flight = 1
            message 0 0 = 1
            message 0 1 = 0
            message 0 2 = 1
            message 0 3 = 0
            message 0 4 = 1
            message 0 5 = 0
            """);
        Script.edge(had, Start.GOOD, """
            pass 0 0 1 2 = 1
            tick 12 = 1
            tick 11 = 1
            lose 1 = 1 x 3
            deliver 0 = 1           # at 23 it is GOOD
            root 1 2 = 0
            root 1 0 = 0
            slot 1 0 2 = 1
            slot 1 0 3 = 24
            flight = 1
            message 0 0 = 1
            message 0 1 = 1
            message 0 2 = 0
            message 0 3 = 0
            message 0 4 = 1
            message 0 5 = 0
            """);
        Script.edge(had, Start.GOOD, """
            make 1 1 = 1
            make 1 1 = 2
            make 1 1 = 3
            make 1 1 = 4
            make 1 1 = 5
            make 1 1 = 6
            make 1 1 = 7
            make 1 1 = -1
            pass 0 0 1 1 = 1
            deliver 0 = 1           # no slot is empty, but it needs none
            root 1 1 = 0
            message 0 0 = 1
            """);
    }

    private static void passPending() {
        String pending = "If the node has a PENDING surrogate for it, the root refers to it, and it owes this pass "
            + "now.";
        Script.edge(pending, Start.PENDING, """
            pass 0 0 1 2 = 1
            tick 3 = 1
            deliver 1 = 1
            root 1 0 = 0
            root 1 2 = 0
            slot 1 0 2 = 0
            slot 1 0 3 = 24         # as before
            flight = 1              # nothing is sent
            deliver 0 = 1
            deliver 0 = 1
            flight = 1
            message 0 0 = 1
            message 0 4 = 1         # TAKEN for pass 1 alone
            deliver 0 = 1
            pins 0 = 1
            """);
        Script.edge(pending, """
            make 0 0 = 0
            pass 0 0 1 0 = 0
            pass 0 0 1 1 = 1
            copy 0 = 1
            deliver 1 = 1           # PASS 1
            deliver 0 = 1           # PASS 0: the one that came last is owed, not the greatest
            root 1 0 = 0
            deliver 1 = 1           # DIRTY
            deliver 1 = 1
            message 1 0 = 1
            message 1 4 = 0
            """);
        Script.edge(pending, Start.PENDING, """
            pass 0 0 1 2 = 1
            tick 12 = 1
            tick 11 = 1
            deliver 1 = 1           # at 23 it is PENDING
            slot 1 0 2 = 0
            slot 1 0 3 = 24
            tick 1 = 1
            slot 1 0 2 = 2          # it did not become so anew
            """);
        String stale = "If it has a STALE one, this BECOMES PENDING, and the root refers to it.";
        Script.edge(stale, Start.PENDING, """
            pass 0 0 1 2 = 1
            lose 0 = 1
            tick 12 = 1
            tick 12 = 1
            slot 1 0 2 = 2
            flight = 4
            deliver 0 = 1           # at 24 it is STALE
            slot 1 0 2 = 0
            slot 1 0 3 = 48
            root 1 2 = 0
            root 1 0 = 0
            slot 1 1 0 = 0
            flight = 4
            message 3 0 = 2
            message 3 4 = 5
            message 3 5 = 24
            """);
        Script.edge(stale, Start.STALE, """
            make 1 1 = 1
            make 1 1 = 2
            make 1 1 = 3
            make 1 1 = 4
            make 1 1 = 5
            make 1 1 = 6
            make 1 1 = 7
            make 1 1 = -1
            pass 0 0 1 2 = 1
            deliver 3 = 1           # no slot is empty, but it needs none
            slot 1 0 2 = 0
            root 1 2 = 0
            """);
    }

    private static void passNew() {
        String made = "If it has none and does not own the object, a surrogate is made in the least empty slot and "
            + "BECOMES PENDING, and the root refers to it; but if no slot is empty, the message is dropped.";
        Script.edge(made, """
            make 1 0 = 0
            make 1 1 = 1
            make 1 2 = 2
            make 1 2 = 3
            collect 1 = 1           # slot 2 is empty, and 4 to 7 are
            make 0 0 = 4
            pass 0 0 1 2 = 0
            deliver 0 = 1
            root 1 2 = 2
            slot 1 2 0 = 2
            slot 1 2 1 = 4
            slot 1 2 2 = 0
            slot 1 4 0 = 0
            """);
        Script.edge(made, """
            make 1 0 = 0
            make 1 0 = 1
            make 1 0 = 2
            make 1 0 = 3
            make 1 0 = 4
            make 1 0 = 5
            make 1 0 = 6
            make 0 0 = 7
            make 0 1 = 8
            pass 0 0 1 1 = 0
            pass 0 1 1 1 = 1
            deliver 0 = 1           # the last slot
            slot 1 7 0 = 2
            slot 1 7 1 = 7
            root 1 1 = 7
            flight = 2
            deliver 0 = 0           # none is left: the root stays, nothing is sent, no number is taken
            root 1 1 = 7
            flight = 1
            pins 0 = 2
            """);
        Script.edge("If the node owns the object and does not have it any more, it is dropped.", Start.GOOD, """
            drop 0 0 = 1
            make 0 2 = 1
            tick 12 = 1
            tick 11 = 1
            pass 1 0 0 2 = 1
            tick 1 = 1
            collect 0 = 1
            message 3 0 = 0
            deliver 3 = 0
            root 0 2 = 1
            slot 0 0 0 = 0
            flight = 3
            """);
    }

    private static void taken() {
        String taken = "TAKEN: the pin with this id at the node, if it has one that did not end, ends; else it is "
            + "dropped.";
        Script.edge(taken, Start.PENDING, """
            deliver 0 = 1 x 2
            copy 0 = 1
            deliver 0 = 1
            pins 0 = 0
            deliver 0 = 0           # it ended already
            """);
        Script.edge(taken, """
            make 0 0 = 0
            pass 0 0 1 0 = 0
            tick 12 = 1
            deliver 0 = 1 x 3
            copy 0 = 1
            tick 11 = 1
            message 0 0 = 1
            message 1 0 = 1
            deliver 0 = 1           # at 23
            pins 0 = 0
            deliver 0 = 0
            """);
        Script.edge(taken, """
            make 0 0 = 0
            pass 0 0 1 0 = 0
            tick 12 = 1
            deliver 0 = 1 x 3
            tick 12 = 1
            message 0 0 = 1
            pins 0 = 0
            deliver 0 = 0           # at 24 the pin ended by itself
            pins 0 = 0
            """);
        Script.edge(taken, Start.PENDING, """
            deliver 0 = 1 x 2
            copy 0 = 1
            deliver 0 = 1
            pass 0 0 2 0 = 1
            pins 0 = 1
            deliver 0 = 0           # TAKEN for pass 0: the pin of pass 1 is another
            pins 0 = 1
            """);
        Script.edge(taken, """
            make 0 0 = 0
            pass 0 0 1 0 = 0
            copy 0 = 1
            deliver 0 = 1
            deliver 1 = 1 x 3
            pins 0 = 0
            deliver 0 = 1           # PASS again, TAKEN again
            message 0 0 = 1
            deliver 0 = 0
            """);
        Script.edge(taken, Start.PENDING, """
            deliver 0 = 1 x 2
            pass 0 0 2 0 = 1
            pass 0 0 3 0 = 2
            drop 0 0 = 1
            pins 0 = 3
            deliver 0 = 1           # the first of three
            pins 0 = 2
            tick 12 = 1
            pins 0 = 2
            """);
    }

    private static void dirty() {
        Script.edge("DIRTY from c: if the node does not have the object, GONE is sent to c with the same SERIAL, "
            + "NUMBER, EXTRA.", Start.FREED, """
            make 0 0 = 1            # another object in its slot
            deliver 0 = 1
            tick 2 = 1
            deliver 0 = 1           # DIRTY of 24, come at 26
            flight = 1
            message 0 0 = 4
            message 0 1 = 0
            message 0 2 = 1
            message 0 3 = 0
            message 0 4 = 1
            message 0 5 = 24
            listing 0 0 1 = 0
            """);
        String newer = "If it has it and NUMBER is greater than the LAST of c, this becomes the NUMBER, c's LISTING "
            + "lasts until the clock + 24, and LISTED is sent to c with the same SERIAL, NUMBER, EXTRA.";
        Script.edge(newer, Start.PENDING, """
            tick 6 = 1
            deliver 0 = 1           # 1 is greater than 0
            listing 0 0 1 = 24
            message 1 0 = 3
            message 1 1 = 0
            message 1 2 = 1
            message 1 3 = 0
            message 1 4 = 1
            message 1 5 = 0
            tick 2 = 1
            listing 0 0 1 = 22
            deliver 0 = 1           # 2 is greater than 1
            listing 0 0 1 = 24
            message 1 4 = 2
            message 1 5 = 6
            tick 12 = 1
            tick 11 = 1
            listing 0 0 1 = 1
            tick 1 = 1
            listing 0 0 1 = 0
            """);
        Script.edge(newer, Start.PENDING, """
            tick 12 = 1
            tick 12 = 1
            tick 1 = 1
            listing 0 0 1 = 0
            deliver 2 = 1           # DIRTY 3, its surrogate is STALE by now
            listing 0 0 1 = 24
            message 3 0 = 3
            message 3 4 = 3
            deliver 1 = 1           # DIRTY 2 is less, but c is listed
            message 3 4 = 2
            """);
        String older = "If NUMBER is not greater, LISTED is sent likewise if c's listing still lasts (the clock has "
            + "not come to its end); else it is dropped.";
        Script.edge(older, Start.PENDING, """
            copy 0 = 1 x 2
            deliver 0 = 1           # listed until 24
            tick 12 = 1
            tick 11 = 1
            flight = 6
            deliver 0 = 1           # the same NUMBER at 23
            listing 0 0 1 = 1       # not prolonged
            flight = 6
            message 5 0 = 3
            message 5 1 = 0
            message 5 2 = 1
            message 5 3 = 0
            message 5 4 = 1
            message 5 5 = 0
            tick 1 = 1
            message 0 0 = 2
            message 0 4 = 1
            deliver 0 = 0           # at 24
            listing 0 0 1 = 0
            flight = 5
            """);
        Script.edge(older, Start.PENDING, """
            tick 6 = 1
            deliver 1 = 1           # DIRTY 2, listed until 30
            tick 1 = 1
            copy 0 = 1
            deliver 0 = 1           # DIRTY 1 is less: LISTED, not prolonged
            listing 0 0 1 = 23
            flight = 3
            message 2 0 = 3
            message 2 4 = 1
            message 2 5 = 0
            deliver 1 = 1           # and LAST is still 2
            message 2 4 = 1
            listing 0 0 1 = 23
            """);
        Script.edge(older, Start.PENDING, """
            tick 6 = 1
            copy 1 = 1
            deliver 1 = 1           # DIRTY 2, listed until 30
            tick 1 = 1
            deliver 0 = 1           # DIRTY 1 leaves LAST as it is
            message 0 0 = 2
            message 0 4 = 2
            deliver 0 = 1           # DIRTY 2 again is not greater
            listing 0 0 1 = 23
            """);
        Script.edge(older, Start.PENDING, """
            pass 0 0 2 0 = 1
            deliver 1 = 1
            drop 1 0 = 1
            collect 1 = 1           # CLEAN 2
            deliver 1 = 1           # DIRTY 1 of node 2
            deliver 1 = 1           # CLEAN 2 of node 1
            listing 0 0 2 = 24
            deliver 0 = 0           # DIRTY 1 of node 1: node 2 is listed, node 1 is not
            listing 0 0 1 = 0
            """);
    }

    private static void listedAndGone() {
        String dropped = "LISTED and GONE: dropped unless the node has a surrogate with that serial which is not "
            + "STALE, and NUMBER is not less than its FIRST.";
        Script.edge(dropped, Start.PENDING, """
            deliver 0 = 1
            drop 1 0 = 1
            collect 1 = 1
            make 1 0 = 1
            deliver 0 = 0           # LISTED: no surrogate
            """);
        Script.edge(dropped, Start.PENDING, """
            make 0 1 = 1
            deliver 0 = 1
            drop 1 0 = 1
            collect 1 = 1
            pass 0 1 1 0 = 1
            deliver 2 = 1
            slot 1 0 1 = 1
            deliver 0 = 0           # LISTED: a surrogate with another serial
            slot 1 0 2 = 0
            """);
        Script.edge(dropped, Start.PENDING, """
            deliver 0 = 1
            copy 0 = 1
            tick 12 = 1
            tick 11 = 1
            message 0 0 = 3
            deliver 0 = 1           # at 23 it is not STALE
            slot 1 0 2 = 1
            tick 1 = 1
            message 0 0 = 3
            deliver 0 = 0           # at 24 it is
            slot 1 0 2 = 2
            slot 1 0 3 = 24
            """);
        Script.edge(dropped, Start.PENDING, """
            tick 12 = 1
            tick 12 = 1
            deliver 2 = 1           # DIRTY 3 of 12
            message 3 0 = 3
            message 3 5 = 12
            deliver 3 = 0           # EXTRA + 24 is greater than the clock, but it is STALE
            slot 1 0 2 = 2
            slot 1 0 3 = 24
            """);
        Script.edge(dropped, Start.PENDING, """
            drop 1 0 = 1
            collect 1 = 1           # CLEAN 2
            lose 1 = 1
            deliver 0 = 1           # LISTED 1
            pass 0 0 1 0 = 1
            deliver 1 = 1           # FIRST is 3
            deliver 0 = 0           # 1 is less
            slot 1 0 2 = 0
            tick 6 = 1              # DIRTY 4
            deliver 1 = 1
            message 1 4 = 4
            deliver 1 = 1           # 4 is greater
            slot 1 0 2 = 1
            """);
        Script.edge(dropped, Start.FREED, """
            deliver 0 = 1
            deliver 0 = 1
            drop 1 0 = 1
            collect 1 = 1
            message 0 0 = 4
            deliver 0 = 0           # GONE: no surrogate
            """);
        Script.edge(dropped, Start.GONE, """
            copy 0 = 1
            deliver 0 = 1
            slot 1 0 3 = 24
            tick 1 = 1
            deliver 0 = 0           # GONE: it is STALE
            slot 1 0 3 = 24
            """);
        Script.edge(dropped, Start.GONE, """
            tick 12 = 1
            tick 11 = 1
            copy 0 = 1
            deliver 0 = 1           # at 47 it is not STALE
            slot 1 0 3 = 47
            """);
        Script.edge(dropped, Start.GONE, """
            tick 12 = 1
            tick 12 = 1
            deliver 0 = 0           # at 48 it is
            slot 1 0 3 = 48
            """);
        Script.edge(dropped, """
            make 0 0 = 0
            pass 0 0 1 0 = 0
            copy 0 = 1
            drop 0 0 = 1
            tick 12 = 1
            tick 12 = 1
            collect 0 = 1
            deliver 0 = 1
            deliver 1 = 1
            copy 1 = 1
            deliver 1 = 1           # GONE 1: NUMBER is FIRST
            slot 1 0 2 = 2
            deliver 0 = 1           # PENDING again, FIRST is 2
            message 0 0 = 4
            message 0 4 = 1
            deliver 0 = 0           # GONE 1 is less
            slot 1 0 2 = 0
            slot 1 0 3 = 48
            """);
    }

    private static void listed() {
        String listed = "LISTED: its expiry becomes EXTRA + 24, if that is greater; and if it was PENDING, it is "
            + "GOOD now, and TAKEN is sent to the sender of the pass that it owes, with the serial, the id and "
            + "EXTRA 0; then it owes nothing.";
        Script.edge(listed, Start.PENDING, """
            tick 6 = 1
            copy 0 = 1
            deliver 0 = 1           # DIRTY 1
            deliver 2 = 1           # LISTED 1: 24 is not greater than 24
            slot 1 0 3 = 24
            slot 1 0 2 = 1
            flight = 3
            message 2 0 = 1
            message 2 1 = 1
            message 2 2 = 0
            message 2 3 = 0
            message 2 4 = 0
            message 2 5 = 0
            lose 2 = 1
            deliver 0 = 1           # DIRTY 2
            deliver 1 = 1           # LISTED 2: 30 is greater
            slot 1 0 3 = 30
            slot 1 0 2 = 1
            flight = 1              # it owed nothing
            deliver 0 = 1           # DIRTY 1 again
            deliver 0 = 1           # LISTED 1: 24 is less than 30
            slot 1 0 3 = 30
            slot 1 0 2 = 1
            flight = 0
            """);
        Script.edge(listed, Start.PENDING, """
            tick 6 = 1
            tick 6 = 1
            deliver 2 = 1
            deliver 2 = 1           # LISTED 3 first: GOOD and 36 at once
            slot 1 0 2 = 1
            slot 1 0 3 = 36
            message 2 0 = 1
            """);
        Script.edge("GONE: its expiry becomes the clock.", Start.GONE, """
            tick 5 = 1
            slot 1 0 3 = 48
            slot 1 0 2 = 0
            deliver 0 = 1           # at 29
            slot 1 0 3 = 29
            slot 1 0 2 = 2
            flight = 0
            tick 1 = 1
            flight = 0              # no DIRTY at 30
            slot 1 0 3 = 29
            slot 1 0 0 = 2          # it is there, and the root still refers to it
            slot 1 0 1 = 0
            slot 1 0 4 = 0
            root 1 0 = 0
            """);
    }

    private static void clean() {
        String clean = "CLEAN from c: if the node has the object and NUMBER is greater than the LAST of c, this "
            + "becomes the NUMBER, and c's listing ends; else it is dropped.";
        Script.edge(clean, Start.GOOD, """
            pass 0 0 2 0 = 1
            deliver 0 = 1 x 4
            drop 1 0 = 1
            collect 1 = 1
            copy 0 = 1
            message 0 4 = 2
            deliver 0 = 1           # 2 is greater than 1
            listing 0 0 1 = 0
            listing 0 0 2 = 24      # that of c alone
            deliver 0 = 0           # 2 is not greater than 2
            """);
        Script.edge(clean, Start.PENDING, """
            drop 1 0 = 1
            collect 1 = 1
            deliver 1 = 1           # there was no listing: LAST is 2 all the same
            deliver 0 = 0           # DIRTY 1
            listing 0 0 1 = 0
            """);
        Script.edge(clean, Start.GOOD, """
            drop 1 0 = 1
            collect 1 = 1           # CLEAN 2
            pass 0 0 1 0 = 1
            deliver 1 = 1
            deliver 1 = 1           # DIRTY 3
            message 0 0 = 5
            deliver 0 = 0           # 2 is less than 3
            listing 0 0 1 = 24
            """);
        Script.edge(clean, Start.STALE, """
            lose 0 = 1 x 3
            drop 1 0 = 1
            collect 1 = 1
            drop 0 0 = 1
            collect 0 = 1
            make 0 0 = 1
            deliver 0 = 0           # the object is not there any more
            listing 0 0 1 = 0
            """);
    }

    private static void call() {
        String done = "CALL from c (NUMBER its number, EXTRA an amount): if NUMBER is greater than that of the "
            + "latest call from c that the node has done (0 when there is none): it is done: if the node has the "
            + "object, the amount is added to its value (wrapping), and the reply is ANSWER with the serial, NUMBER "
            + "and the value as EXTRA; else the reply is NOOBJECT with the serial, NUMBER and EXTRA 0. The reply is "
            + "kept and sent.";
        Script.edge(done, Start.GOOD, """
            call 1 0 2147483647 = 1
            deliver 0 = 1           # 1 is greater than 0
            slot 0 0 2 = 2147483647
            deliver 0 = 1
            call 1 0 1 = 2
            deliver 0 = 1           # over the greatest int
            slot 0 0 2 = -2147483648
            message 0 0 = 7
            message 0 1 = 0
            message 0 2 = 1
            message 0 3 = 0
            message 0 4 = 2
            message 0 5 = -2147483648
            deliver 0 = 1
            outcome 1 2 = -2147483648
            call 1 0 -1 = 3
            deliver 0 = 1           # and under the least
            slot 0 0 2 = 2147483647
            deliver 0 = 1
            outcome 1 2 = 2147483647
            call 1 0 -2147483648 = 4
            deliver 0 = 1
            slot 0 0 2 = -1
            deliver 0 = 1
            call 1 0 0 = 5
            deliver 0 = 1
            slot 0 0 2 = -1
            message 0 5 = -1
            """);
        Script.edge(done, Start.GOOD, """
            pass 0 0 2 0 = 1
            deliver 0 = 1 x 4
            call 1 0 5 = 1
            deliver 0 = 1 x 2
            call 1 0 5 = 2
            deliver 0 = 1 x 2
            call 2 0 7 = 1
            deliver 0 = 1           # 1 of node 2 is greater than none, whatever node 1 did
            slot 0 0 2 = 17
            """);
        Script.edge(done, Start.LATE_CALL, """
            make 0 0 = 1            # another object in its slot
            copy 3 = 1
            deliver 3 = 1
            slot 0 0 2 = 0
            message 4 0 = 8
            message 4 1 = 0
            message 4 2 = 1
            message 4 3 = 0
            message 4 4 = 1
            message 4 5 = 0
            deliver 3 = 1           # it is done, too: the kept NOOBJECT again
            flight = 5
            message 4 0 = 8
            message 4 4 = 1
            """);
    }

    private static void callAgain() {
        String again = "If NUMBER is that of the latest call, the kept reply is sent again; if it is less, it is "
            + "dropped.";
        Script.edge(again, Start.GOOD, """
            pass 0 0 2 0 = 1
            deliver 0 = 1 x 4
            call 1 0 5 = 1
            copy 0 = 1
            deliver 0 = 1
            lose 1 = 1
            call 2 0 6 = 1
            deliver 1 = 1
            slot 0 0 2 = 11
            lose 1 = 1
            deliver 0 = 1           # the same number: added once
            slot 0 0 2 = 11
            flight = 1
            message 0 0 = 7
            message 0 1 = 0
            message 0 2 = 1
            message 0 3 = 0
            message 0 4 = 1
            message 0 5 = 5         # as it was then
            """);
        Script.edge(again, Start.GOOD, """
            call 1 0 5 = 1
            copy 0 = 1
            deliver 0 = 1
            deliver 1 = 1
            call 1 0 6 = 2
            copy 1 = 1
            deliver 1 = 1
            slot 0 0 2 = 11
            message 0 4 = 1
            deliver 0 = 0           # 1 is less than 2
            slot 0 0 2 = 11
            flight = 2
            deliver 0 = 1           # 2 is not
            slot 0 0 2 = 11
            """);
        Script.edge(again, Start.GOOD, """
            call 1 0 5 = 1
            copy 0 = 1
            deliver 0 = 1
            lose 1 = 1
            drop 0 0 = 1
            tick 12 = 1
            tick 12 = 1
            collect 0 = 1           # the object is gone, the ANSWER is kept
            deliver 0 = 1
            flight = 11             # CALLs at 3, 6, .. 21, DIRTYs at 6, 12, 18, and the reply
            message 10 0 = 7
            message 10 4 = 1
            message 10 5 = 5
            """);
        Script.edge(again, Start.GOOD, """
            call 1 0 5 = 1
            copy 0 = 1
            deliver 0 = 1
            deliver 1 = 1
            drop 0 0 = 1
            tick 12 = 1
            tick 11 = 1
            call 1 0 6 = 2
            tick 1 = 1
            collect 0 = 1
            deliver 4 = 1
            message 4 0 = 8
            message 4 4 = 2
            message 0 0 = 6
            message 0 4 = 1
            deliver 0 = 0           # one that NOOBJECT answered is done, too
            """);
        Script.edge(again, Start.GOOD, """
            make 0 1 = 1
            pass 0 1 1 1 = 1
            deliver 0 = 1 x 4
            call 1 0 5 = 1
            copy 0 = 1
            deliver 0 = 1
            deliver 1 = 1
            call 1 1 6 = 2
            deliver 1 = 1
            slot 0 1 2 = 6
            message 0 3 = 0
            deliver 0 = 0           # the latest call counts, of whichever object
            slot 0 0 2 = 5
            """);
    }

    private static void reply() {
        String dropped = "ANSWER and NOOBJECT: dropped unless the node's call WAITS and has this number.";
        Script.edge(dropped, Start.GOOD, """
            call 1 0 5 = 1
            deliver 0 = 1
            copy 0 = 1 x 2
            deliver 0 = 1
            deliver 0 = 0           # it is DONE
            outcome 1 0 = 2
            call 1 0 6 = 2
            deliver 0 = 0           # it waits, but is number 2
            outcome 1 0 = 1
            outcome 1 1 = 2
            outcome 1 2 = 5
            """);
        Script.edge(dropped, Start.GOOD, """
            tick 12 = 1
            tick 9 = 1
            call 1 0 5 = 1
            deliver 3 = 1
            tick 3 = 1
            outcome 1 0 = 3
            message 3 0 = 7
            deliver 3 = 0           # it FAILED
            outcome 1 0 = 3
            outcome 1 2 = 0
            """);
        Script.edge(dropped, Start.LATE_CALL, """
            deliver 3 = 1
            copy 3 = 1
            deliver 3 = 1
            outcome 1 0 = 3
            deliver 3 = 0           # NOOBJECT: it FAILED already
            outcome 1 0 = 3
            """);
        Script.edge("ANSWER: the call is DONE, its RESULT is EXTRA.", Start.GOOD, """
            call 1 0 -7 = 1
            deliver 0 = 1
            outcome 1 0 = 1
            deliver 0 = 1
            outcome 1 0 = 2
            outcome 1 1 = 1
            outcome 1 2 = -7
            flight = 0
            """);
        Script.edge("NOOBJECT: the call FAILED.", Start.LATE_CALL, """
            deliver 3 = 1
            outcome 1 0 = 1
            deliver 3 = 1
            outcome 1 0 = 3
            outcome 1 1 = 1
            outcome 1 2 = 0
            flight = 3
            """);
        Script.edge("NOOBJECT: the call FAILED.", Start.GOOD, """
            call 1 0 8 = 1
            deliver 0 = 1 x 2
            drop 0 0 = 1
            tick 12 = 1
            tick 11 = 1
            call 1 0 5 = 2
            tick 1 = 1
            collect 0 = 1
            deliver 3 = 1 x 2
            outcome 1 0 = 3
            outcome 1 1 = 2
            outcome 1 2 = 8         # the RESULT of call 1 stays
            """);
    }
}
