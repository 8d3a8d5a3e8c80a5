/** Promise 18, and how DIRTY, LISTED, GONE and CLEAN come to a node. */
public final class ListingTest {
    public static void main(String[] args) {
        listing();
        dirtyComes();
        listedComes();
        goneComes();
        cleanComes();
        Script.finish();
    }

    private static void listing() {
        Script.run("how much longer a listing lasts", Start.PENDING, """
            listing 0 0 1 = 0
            tick 3 = 1
            deliver 0 = 1
            listing 0 0 1 = 24
            listing 0 0 2 = 0
            listing 0 0 3 = 0
            tick 5 = 1
            listing 0 0 1 = 19
            tick 12 = 1
            tick 6 = 1
            listing 0 0 1 = 1
            tick 1 = 1
            listing 0 0 1 = 0
            tick 1 = 1
            listing 0 0 1 = 0
            """);
        Script.run("listing refuses", Start.GOOD, """
            listing 0 0 0 = -1      # no other node
            listing 0 0 4 = -1
            listing 0 0 -1 = -1
            listing 0 1 1 = -1      # an empty slot
            listing 1 0 0 = -1      # a surrogate
            listing 1 0 2 = -1
            listing 0 8 1 = -1
            listing 0 -1 1 = -1
            listing 4 0 1 = -1
            listing -1 0 1 = -1
            listing 2147483647 0 1 = -1
            listing 0 2147483647 1 = -1
            listing 0 0 -2147483648 = -1
            """);
        Script.run("listings at a crashed node", Start.GOOD, """
            crash 0 = 1
            listing 0 0 1 = 24
            tick 4 = 1
            listing 0 0 1 = 20
            listing 0 0 0 = -1
            listing 0 1 1 = -1
            """);
    }

    private static void dirtyComes() {
        Script.run("DIRTY is answered by LISTED with its parts", """
            make 2 0 = 0
            make 2 1 = 1
            tick 2 = 1
            pass 2 1 3 0 = 0
            deliver 0 = 1
            tick 3 = 1
            deliver 0 = 1
            listing 2 1 3 = 24
            listing 2 0 3 = 0
            flight = 1
            message 0 0 = 3
            message 0 1 = 2
            message 0 2 = 3
            message 0 3 = 1
            message 0 4 = 1
            message 0 5 = 2
            """);
        Script.run("an old DIRTY prolongs nothing", Start.PENDING, """
            copy 0 = 1
            deliver 0 = 1
            tick 5 = 1
            deliver 0 = 1
            listing 0 0 1 = 19
            flight = 2
            message 1 0 = 3
            message 1 4 = 1
            message 1 5 = 0
            """);
        Script.run("an old DIRTY is LISTED until its listing ends", Start.PENDING, """
            copy 0 = 1
            copy 0 = 1
            deliver 0 = 1           # listed until 24
            tick 12 = 1
            tick 11 = 1
            deliver 0 = 1
            tick 1 = 1
            deliver 0 = 0
            listing 0 0 1 = 0
            """);
        Script.run("a DIRTY older than a CLEAN is dropped", Start.PENDING, """
            drop 1 0 = 1
            collect 1 = 1
            copy 0 = 1
            deliver 1 = 1           # CLEAN 2
            deliver 0 = 0           # DIRTY 1
            listing 0 0 1 = 0
            flight = 1
            """);
        Script.run("an older DIRTY of another node counts for that node", Start.PENDING, """
            pass 0 0 2 0 = 1
            deliver 1 = 1
            tick 6 = 1              # DIRTY 2 of each
            deliver 2 = 1           # DIRTY 2 of node 1
            message 1 1 = 2
            message 1 4 = 1
            deliver 1 = 1           # DIRTY 1 of node 2
            listing 0 0 1 = 24
            listing 0 0 2 = 24
            """);
        Script.run("a newer DIRTY prolongs the listing", Start.GOOD, """
            tick 6 = 1
            listing 0 0 1 = 18
            tick 2 = 1
            deliver 0 = 1
            listing 0 0 1 = 24
            deliver 0 = 1
            slot 1 0 3 = 30
            """);
        Script.run("DIRTY for an object that is gone", Start.FREED, """
            deliver 0 = 1
            tick 1 = 1
            flight = 1
            message 0 0 = 2
            deliver 0 = 1
            flight = 1
            message 0 0 = 4
            message 0 1 = 0
            message 0 2 = 1
            message 0 3 = 0
            message 0 4 = 1
            message 0 5 = 24
            """);
    }

    private static void listedComes() {
        Script.run("LISTED makes GOOD and sends TAKEN once", Start.PENDING, """
            tick 6 = 1              # DIRTY 2, with 6
            deliver 1 = 1
            deliver 1 = 1           # LISTED 2
            slot 1 0 2 = 1
            slot 1 0 3 = 30
            flight = 2
            message 1 0 = 1
            message 1 1 = 1
            message 1 2 = 0
            message 1 3 = 0
            message 1 4 = 0
            message 1 5 = 0
            deliver 0 = 1           # DIRTY 1
            deliver 1 = 1           # LISTED 1 does not shorten
            slot 1 0 2 = 1
            slot 1 0 3 = 30
            flight = 1
            """);
        Script.run("LISTED comes late", Start.PENDING, """
            tick 7 = 1
            deliver 0 = 1
            deliver 1 = 1
            slot 1 0 2 = 1
            slot 1 0 3 = 24         # from when the DIRTY was sent
            listing 0 0 1 = 24
            """);
        Script.run("LISTED for a STALE surrogate", Start.PENDING, """
            deliver 0 = 1
            copy 0 = 1
            tick 12 = 1
            tick 11 = 1
            slot 1 0 2 = 0
            tick 1 = 1
            slot 1 0 2 = 2
            deliver 0 = 0
            slot 1 0 2 = 2
            slot 1 0 3 = 24
            """);
        Script.run("LISTED just before the surrogate is STALE", Start.PENDING, """
            deliver 0 = 1
            tick 12 = 1
            tick 11 = 1
            deliver 0 = 1
            slot 1 0 2 = 1
            tick 1 = 1
            slot 1 0 2 = 2
            """);
        Script.run("LISTED where there is no surrogate", Start.PENDING, """
            deliver 0 = 1
            drop 1 0 = 1
            collect 1 = 1
            deliver 0 = 0
            flight = 1
            slot 1 0 0 = 0
            """);
        Script.run("LISTED of an earlier surrogate", Start.PENDING, """
            deliver 0 = 1           # LISTED 1
            drop 1 0 = 1
            collect 1 = 1           # CLEAN 2
            pass 0 0 1 0 = 1
            deliver 2 = 1           # DIRTY 3
            deliver 0 = 0           # LISTED 1
            slot 1 0 2 = 0
            deliver 1 = 1
            deliver 1 = 1           # LISTED 3
            slot 1 0 2 = 1
            """);
    }

    private static void goneComes() {
        Script.run("GONE makes STALE", Start.FREED, """
            deliver 0 = 1
            deliver 0 = 1
            copy 0 = 1
            tick 3 = 1
            slot 1 0 2 = 0
            deliver 0 = 1
            slot 1 0 2 = 2
            slot 1 0 3 = 27
            flight = 1
            deliver 0 = 0           # it is STALE already
            root 1 0 = 0
            tick 12 = 1
            flight = 0              # no DIRTY for a STALE one
            """);
        Script.run("GONE of an earlier life", """
            make 0 0 = 0
            pass 0 0 1 0 = 0
            copy 0 = 1
            drop 0 0 = 1
            tick 12 = 1
            tick 12 = 1
            collect 0 = 1
            deliver 0 = 1           # PASS, DIRTY 1
            deliver 1 = 1           # GONE 1
            copy 1 = 1
            deliver 1 = 1
            slot 1 0 2 = 2
            deliver 0 = 1           # PASS, DIRTY 2
            slot 1 0 2 = 0
            deliver 0 = 0           # GONE 1
            slot 1 0 2 = 0
            deliver 0 = 1
            deliver 0 = 1           # GONE 2
            slot 1 0 2 = 2
            """);
        Script.run("GONE where there is no surrogate", Start.FREED, """
            deliver 0 = 1
            deliver 0 = 1
            drop 1 0 = 1
            collect 1 = 1
            deliver 0 = 0
            """);
    }

    private static void cleanComes() {
        Script.run("CLEAN ends a listing", Start.GOOD, """
            pass 0 0 2 0 = 1
            deliver 0 = 1
            deliver 0 = 1
            deliver 0 = 1
            deliver 0 = 1
            drop 1 0 = 1
            collect 1 = 1
            message 0 0 = 5
            message 0 1 = 1
            message 0 2 = 0
            message 0 3 = 0
            message 0 4 = 2
            message 0 5 = 0
            copy 0 = 1
            deliver 0 = 1
            listing 0 0 1 = 0
            listing 0 0 2 = 24
            deliver 0 = 0           # its number is not greater any more
            """);
        Script.run("CLEAN older than the newest DIRTY is dropped", Start.GOOD, """
            drop 1 0 = 1
            collect 1 = 1           # CLEAN 2
            pass 0 0 1 0 = 1
            deliver 1 = 1           # DIRTY 3
            deliver 1 = 1
            deliver 0 = 0
            listing 0 0 1 = 24
            """);
        Script.run("CLEAN where nothing was listed counts too", Start.PENDING, """
            drop 1 0 = 1
            collect 1 = 1
            deliver 1 = 1
            listing 0 0 1 = 0
            """);
        Script.run("CLEAN for an object that is gone", Start.STALE, """
            drop 0 0 = 1
            collect 0 = 1
            drop 1 0 = 1
            collect 1 = 1
            message 3 0 = 5
            message 3 4 = 5
            deliver 3 = 0
            """);
    }
}
