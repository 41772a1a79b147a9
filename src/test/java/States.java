/** Runs that lead to a limit of the document; other runs go on from there. */
final class States {
    /** The cache is full: of files 0 and 1 (both open), the block not used for the longest time dirty. */
    static final String FIVE_BLOCKS = """
            put 0 32 0 = 0; put 1 16 0 = 0; open 1 0 3 = 0; open 1 1 7 = 1
            write 1 0 9 = 1; seek 1 0 8 = 8; read 1 0 = 56; seek 1 0 16 = 16; read 1 0 = 112
            seek 1 0 24 = 24; read 1 0 = 168; read 1 1 = 0; count 0 = 5
            cached 0 = 1; cached 1 = 24; cached 2 = 16; cached 3 = 8; cached 4 = 32
            """;

    /** As FIVE_BLOCKS, but no block is dirty. */
    static final String FIVE_CLEAN_BLOCKS = FIVE_BLOCKS + "sync 1 0 = 1; count 0 = 6; cached 4 = 0; count 3 = 0\n";

    /** Process 1 and 2 have six openings of file 0 each, process 3 two more; 4 has no descriptor. */
    static final String FOURTEEN_OPENINGS = """
            put 0 4 9 = 0; fork 1 = 2; fork 1 = 3; fork 1 = 4
            """ + Runs.each(0, 5, "open 1 0 1 = #") + Runs.each(0, 5, "open 2 0 1 = #") + """
            open 3 0 1 = 0; open 3 0 3 = 1; count 1 = 14
            """;

    /** All descriptors of process 1 are in use, and of one opening of file 0, which has four cells. */
    static final String SIX_DESCRIPTORS = "put 0 4 1 = 0; open 1 0 1 = 0\n" + Runs.each(1, 5, "dup 1 0 = #");

    static final String SIX_PROCESSES = Runs.each(2, 6, "fork 1 = #") + "count 2 = 6\n";

    /** Process 1 has a pipe with the cells 11, 12, 13 and 14. */
    static final String FULL_PIPE = "pipe 1 = 8\n" + Runs.each(11, 14, "write 1 1 # = 1");

    private States() {
    }
}
