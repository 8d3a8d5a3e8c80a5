/** Beginnings that several scripts share. */
final class Start {
    /** Object 0 of node 0 in its root 0 and slot 0; root 0 and slot 0 of node 1 have a GOOD surrogate until 24. */
    static final String GOOD = """
        make 0 0 = 0
        pass 0 0 1 0 = 0
        deliver 0 = 1       # PASS
        deliver 0 = 1       # DIRTY 1
        deliver 0 = 1       # LISTED
        deliver 0 = 1       # TAKEN
        flight = 0
        slot 1 0 2 = 1
        """;

    /** The same, but the surrogate is PENDING and its DIRTY 1 is in flight. */
    static final String PENDING = """
        make 0 0 = 0
        pass 0 0 1 0 = 0
        deliver 0 = 1
        flight = 1
        slot 1 0 2 = 0
        """;

    /** GOOD, then 24 later: the surrogate is STALE, its DIRTYs 2, 3 and 4 are in flight. */
    static final String STALE = GOOD + """
        tick 12 = 1
        tick 12 = 1
        flight = 3
        slot 1 0 2 = 2
        """;

    private Start() {
    }
}
