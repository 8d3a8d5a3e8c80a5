/** Beginnings that several scripts share. */
final class Start {
    /** Object 0 of node 0 in its root 0 and slot 0; root 0 and slot 0 of node 1 have a GOOD surrogate until 24. */
    static final String GOOD = """
        make 0 0 = 0
        pass 0 0 1 0 = 0
        deliver 0 = 1       # PASS
        deliver 0 = 1       # DIRTY 1
        deliver 0 = 1       # LISTED
        deliver 0 = 1       # TAKEN
        flight = 0
        slot 1 0 2 = 1
        """;

    /** The same, but the surrogate is PENDING and its DIRTY 1 is in flight. */
    static final String PENDING = """
        make 0 0 = 0
        pass 0 0 1 0 = 0
        deliver 0 = 1
        flight = 1
        slot 1 0 2 = 0
        """;

    /** GOOD, then 24 later: the surrogate is STALE, its DIRTYs 2, 3 and 4 are in flight. */
    static final String STALE = GOOD + """
        tick 12 = 1
        tick 12 = 1
        flight = 3
        slot 1 0 2 = 2
        """;

    /** Object 0 of node 0 is freed at 24, and a PASS of it to root 0 of node 1 is still in flight. */
    static final String FREED = """
        make 0 0 = 0
        pass 0 0 1 0 = 0
        drop 0 0 = 1
        tick 12 = 1
        tick 12 = 1
        collect 0 = 1
        flight = 1
        """;

    /** FREED, and node 1 took the PASS and asked: it is PENDING until 48, and GONE 1 comes to it. */
    static final String GONE = FREED + """
        deliver 0 = 1
        deliver 0 = 1
        flight = 1
        message 0 0 = 4
        """;

    /** The roots and slots 0, 1, 2 of node 1 have PENDING surrogates of the objects 0, 1, 2 of node 0. */
    static final String THREE_PENDING = """
        make 0 0 = 0
        make 0 1 = 1
        make 0 2 = 2
        pass 0 0 1 0 = 0
        pass 0 1 1 1 = 1
        pass 0 2 1 2 = 2
        deliver 0 = 1 x 3
        flight = 3              # DIRTYs 1, 2, 3
        """;

    /** GOOD, and the object is freed at 24 while CALL 1 of node 1, sent at 23, is in flight behind three DIRTYs. */
    static final String LATE_CALL = GOOD + """
        drop 0 0 = 1
        tick 12 = 1
        tick 11 = 1
        call 1 0 5 = 1
        tick 1 = 1
        collect 0 = 1
        flight = 4
        message 3 0 = 6
        """;

    private Start() {
    }
}
