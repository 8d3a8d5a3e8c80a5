/** The edges of COLLECTING and of the promises 12 and 13. */
final class EdgesOfCollecting {
    private static final String KEPT = "COLLECTING at a node: the slots are KEPT to which a root refers, those of "
        + "pins that did not end, that of the surrogate of a call that WAITS, those of objects of which some listing "
        + "lasts, and those that the fields of kept objects refer to.";

    private EdgesOfCollecting() {
    }

    static void run() {
        roots();
        pins();
        calls();
        listings();
        fields();
        noFields();
        emptied();
        howMany();
        crash();
    }

    private static void roots() {
        Script.edge(KEPT, """
            make 2 0 = 0
            make 2 1 = 1
            make 2 2 = 2
            collect 2 = 0           # each of the roots keeps
            drop 2 1 = 1
            collect 2 = 1
            slot 2 0 0 = 1
            slot 2 1 0 = 0
            slot 2 2 0 = 1
            """);
        Script.edge(KEPT, """
            make 2 2 = 0
            make 2 2 = 1
            make 2 2 = 2
            make 2 2 = 3
            make 2 2 = 4
            make 2 2 = 5
            make 2 2 = 6
            make 2 2 = 7
            collect 2 = 7           # the last slot is kept, too
            slot 2 7 0 = 1
            slot 2 0 0 = 0
            """);
    }

    private static void pins() {
        Script.edge(KEPT, """
            make 0 0 = 0
            pass 0 0 1 0 = 0
            lose 0 = 1
            drop 0 0 = 1
            tick 12 = 1
            tick 11 = 1
            collect 0 = 0           # at 23 the pin did not end
            tick 1 = 1
            collect 0 = 1           # at 24 it did
            """);
        Script.edge(KEPT, Start.GOOD, """
            pass 1 0 2 0 = 1
            drop 1 0 = 1
            collect 1 = 0           # a surrogate is pinned like an object
            deliver 0 = 1 x 3
            message 0 0 = 1
            collect 1 = 0
            deliver 0 = 1           # TAKEN
            collect 1 = 1
            """);
        Script.edge(KEPT, """
            make 0 0 = 0
            make 0 1 = 1
            pass 0 0 1 0 = 0
            pass 0 1 1 1 = 1
            pass 0 0 2 0 = 2
            pass 0 0 2 0 = 3
            pass 0 0 2 0 = 4
            pass 0 0 2 0 = 5
            drop 0 0 = 1
            drop 0 1 = 1
            make 0 2 = 2
            drop 0 2 = 1
            collect 0 = 1           # six pins keep their two slots
            slot 0 2 0 = 0
            slot 0 0 0 = 1
            slot 0 1 0 = 1
            """);
        Script.edge(KEPT, """
            make 0 0 = 0
            pass 0 0 1 0 = 0
            drop 0 0 = 1
            tick 12 = 1
            tick 12 = 1
            collect 0 = 1
            make 0 0 = 1            # in the slot of the pin that ended
            drop 0 0 = 1
            collect 0 = 1
            """);
    }

    private static void calls() {
        Script.edge(KEPT, Start.GOOD, """
            call 1 0 5 = 1
            drop 1 0 = 1
            collect 1 = 0           # it WAITS
            deliver 0 = 1
            deliver 0 = 1
            outcome 1 0 = 2
            collect 1 = 1           # it is DONE
            """);
        Script.edge(KEPT, Start.LATE_CALL, """
            drop 1 0 = 1
            slot 1 0 2 = 2
            collect 1 = 0           # it WAITS, though its surrogate is STALE
            tick 2 = 1
            outcome 1 0 = 3
            collect 1 = 1           # it FAILED
            """);
        Script.edge(KEPT, Start.LATE_CALL, """
            drop 1 0 = 1
            deliver 3 = 1 x 2
            outcome 1 0 = 3
            collect 1 = 1           # it FAILED by NOOBJECT
            """);
        Script.edge(KEPT, """
            make 1 0 = 0
            drop 1 0 = 1
            outcome 1 0 = 0
            collect 1 = 1           # no call: slot 0 is not the slot of one
            """);
    }

    private static void listings() {
        Script.edge(KEPT, Start.GOOD, """
            drop 0 0 = 1
            tick 12 = 1
            tick 11 = 1
            listing 0 0 1 = 1
            collect 0 = 0           # at 23 it lasts
            tick 1 = 1
            listing 0 0 1 = 0
            collect 0 = 1           # at 24 it does not
            """);
        for (int client = 0; client < 4; client++) {
            int owner = client == 2 ? 1 : 2;
            Script.edge(KEPT, """
                make O 0 = 0
                pass O 0 C 0 = 0
                deliver 0 = 1 x 4
                drop O 0 = 1
                collect O = 0       # the listing of whichever node
                drop C 0 = 1
                collect C = 1
                deliver 0 = 1       # CLEAN
                collect O = 1
                """.replace("O", "" + owner).replace("C", "" + client));
        }
        Script.edge(KEPT, Start.GOOD, """
            pass 0 0 2 0 = 1
            deliver 0 = 1 x 4
            drop 0 0 = 1
            drop 1 0 = 1
            collect 1 = 1
            deliver 0 = 1
            listing 0 0 1 = 0
            collect 0 = 0           # some listing: that of node 2
            """);
    }

    private static void fields() {
        Script.edge(KEPT, """
            make 0 0 = 0
            make 0 1 = 1
            make 0 2 = 2
            link 0 0 0 1 = 1
            link 0 0 1 2 = 1
            drop 0 1 = 1
            drop 0 2 = 1
            collect 0 = 0           # both fields keep
            link 0 0 0 -1 = 1
            collect 0 = 1
            slot 0 1 0 = 0
            slot 0 2 0 = 1
            link 0 0 1 -1 = 1
            collect 0 = 1
            slot 0 2 0 = 0
            """);
        Script.edge(KEPT, """
            make 0 0 = 0
            make 0 1 = 1
            link 0 0 0 1 = 1
            drop 0 1 = 1
            drop 0 0 = 1
            collect 0 = 2           # the fields of what is not kept keep nothing
            """);
        Script.edge(KEPT, """
            make 0 0 = 0
            link 0 0 0 0 = 1
            link 0 0 1 0 = 1
            collect 0 = 0
            drop 0 0 = 1
            collect 0 = 1           # nor does an object itself
            """);
        Script.edge(KEPT, """
            make 0 0 = 0
            make 0 1 = 1
            link 0 0 0 1 = 1
            pass 0 0 1 0 = 0
            drop 0 0 = 1
            drop 0 1 = 1
            collect 0 = 0           # the fields of what a pin keeps
            deliver 0 = 1 x 4
            pins 0 = 0
            collect 0 = 0           # and of what a listing keeps
            drop 1 0 = 1
            collect 1 = 1
            deliver 0 = 1
            collect 0 = 2
            """);
        Script.edge(KEPT, Start.GOOD, """
            make 1 1 = 1
            link 1 1 1 0 = 1
            drop 1 0 = 1
            collect 1 = 0           # a field keeps a surrogate
            drop 1 1 = 1
            collect 1 = 2
            message 0 0 = 5
            flight = 1
            """);
        Script.edge(KEPT, """
            make 0 0 = 0
            make 0 1 = 1
            link 0 1 0 0 = 1
            make 0 0 = 2
            link 0 0 1 1 = 1
            make 0 1 = 3
            link 0 1 0 0 = 1
            make 0 0 = 4
            link 0 0 1 1 = 1
            make 0 1 = 5
            link 0 1 0 0 = 1
            make 0 0 = 6
            link 0 0 1 1 = 1
            make 0 1 = 7
            link 0 1 0 0 = 1
            drop 0 0 = 1
            collect 0 = 0           # the longest chain: from slot 7 down to slot 0
            slot 0 0 0 = 1
            drop 0 1 = 1
            collect 0 = 8
            """);
    }

    private static void noFields() {
        Script.edge(KEPT, """
            make 0 0 = 0
            make 0 1 = 1
            link 0 0 0 1 = 1
            link 0 0 1 1 = 1
            drop 0 0 = 1
            collect 0 = 1
            make 1 0 = 2
            pass 1 0 0 0 = 0
            deliver 0 = 1           # a surrogate where an object with fields was
            slot 0 0 0 = 2
            drop 0 1 = 1
            collect 0 = 1           # it has none
            slot 0 1 0 = 0
            """);
        Script.edge(KEPT, """
            make 1 0 = 0
            pass 1 0 0 0 = 0
            deliver 0 = 1 x 4
            slot 0 0 4 = 1          # the owner 1 is no slot
            make 0 1 = 1
            drop 0 1 = 1
            collect 0 = 1
            slot 0 1 0 = 0
            """);
    }

    private static void emptied() {
        String emptied = "The other slots that are not empty become empty, from slot 0 on; for each surrogate among "
            + "them CLEAN is sent to the owner, with the serial, the node's next number and EXTRA 0.";
        Script.edge(emptied, """
            make 0 0 = 0
            make 3 0 = 1
            make 1 2 = 2
            pass 3 0 1 0 = 0
            pass 0 0 1 1 = 1
            deliver 1 = 1           # object 0 in slot 1, DIRTY 1
            deliver 0 = 1           # object 1 in slot 2, DIRTY 2
            lose 0 = 1 x 2
            drop 1 0 = 1
            drop 1 1 = 1
            drop 1 2 = 1
            tick 3 = 1
            collect 1 = 3
            flight = 2              # none for the object of slot 0
            message 0 0 = 5
            message 0 1 = 1
            message 0 2 = 0
            message 0 3 = 0
            message 0 4 = 3
            message 0 5 = 0
            message 1 0 = 5
            message 1 1 = 1
            message 1 2 = 3
            message 1 3 = 1
            message 1 4 = 4
            message 1 5 = 0
            slot 1 0 0 = 0
            slot 1 1 0 = 0
            slot 1 2 0 = 0
            slot 1 0 1 = -1
            slot 1 1 3 = -1
            """);
        Script.edge(emptied, Start.STALE, """
            crash 0 = 1
            drop 1 0 = 1
            collect 1 = 1           # a STALE one of a crashed owner, too
            message 3 0 = 5
            message 3 2 = 0
            message 3 4 = 5
            deliver 3 = 0
            """);
        Script.edge(emptied, Start.PENDING, """
            drop 1 0 = 1
            collect 1 = 1           # a PENDING one, too
            flight = 2
            message 1 0 = 5
            message 1 4 = 2
            deliver 0 = 1
            deliver 1 = 0           # LISTED: no TAKEN for the pass that it owed
            pins 0 = 1
            """);
        Script.edge(emptied, """
            make 1 0 = 0
            make 0 0 = 1
            pass 0 0 1 0 = 0
            deliver 0 = 1
            collect 1 = 1           # an object goes without a CLEAN
            flight = 1
            message 0 0 = 2
            slot 1 1 0 = 2
            """);
    }

    private static void howMany() {
        String count = "COLLECTING at the node: how many slots became empty.";
        Script.edge(count, """
            collect 0 = 0           # nothing there
            collect 3 = 0
            collect 4 = -1
            collect -1 = -1
            make 3 0 = 0
            collect 3 = 0           # nothing to free
            make 3 0 = 1
            make 3 0 = 2
            make 3 0 = 3
            make 3 0 = 4
            make 3 0 = 5
            make 3 0 = 6
            make 3 0 = 7
            drop 3 0 = 1
            make 2 0 = 8
            drop 2 0 = 1
            collect 3 = 8           # all eight
            collect 3 = 0
            slot 2 0 0 = 1          # the other nodes are left alone
            make 3 0 = 9
            root 3 0 = 0
            crash 2 = 1
            collect 2 = -1
            slot 2 0 0 = 1
            """);
        Script.edge(count, Start.GOOD, """
            make 1 1 = 1
            drop 1 0 = 1
            drop 1 1 = 1
            collect 1 = 2           # a surrogate counts like an object
            """);
    }

    private static void crash() {
        Script.edge("The node crashes (false for one that crashed).", """
            crash -1 = 0
            crash 4 = 0
            crash 2147483647 = 0
            crash -2147483648 = 0
            make 0 0 = 0
            make 3 0 = 1
            crash 0 = 1
            crash 0 = 0
            make 0 1 = -1
            make 3 1 = 2            # the others go on
            make 1 0 = 3
            make 2 0 = 4
            crash 3 = 1
            crash 3 = 0
            crash 0 = 0
            make 3 2 = -1
            slot 3 0 0 = 1
            tick 12 = 1
            crash 3 = 0             # it stays so
            make 3 2 = -1
            crash 1 = 1
            crash 2 = 1
            crash 2 = 0
            """);
    }
}
