/** The sentences of 'Terms' that name a boundary case, in the document's order. */
public final class TermsTest {
    public static void main(String[] args) {
        files();
        lengthAndPolicy();
        cache();
        operations();
        failures();
        hostCells();
        writeOperation();
        getBlock();
        processes();
        openings();
        pipes();
        orderOfTests();
        Runs.finish();
    }

    private static void files() {
        Runs.run("Terms: files 0 .. 7", Runs.each(0, 7, "put # 1 # = 0") + Runs.each(0, 7, "host # 0 = #") + """
                put -1 1 1 = REFUSED; put 8 1 1 = REFUSED; policy -1 1 = REFUSED; policy 8 1 = REFUSED
                open 1 -1 1 = REFUSED; open 1 8 1 = REFUSED; unlink 1 -1 = REFUSED; unlink 1 8 = REFUSED
                host -1 0 = REFUSED; host 8 0 = REFUSED
                """);
        Runs.run("Terms: a file is there or not", """
                host 3 0 = ABSENT; open 1 3 9 = 0; host 3 0 = END; close 1 0 = 0; unlink 1 3 = 0; host 3 0 = ABSENT
                put 3 0 0 = 0; host 3 0 = END
                """);
        Runs.run("Terms: with 0 .. 32 cells", """
                put 0 0 1 = 0; host 0 0 = END; put 0 32 1 = 0; host 0 31 = 218; host 0 32 = END; put 0 33 1 = REFUSED
                put 0 -1 1 = REFUSED; open 1 0 7 = 0; write 1 0 1 = FULL; seek 1 0 32 = 32; read 1 0 = END
                """);
        Runs.run("Terms: cells of 0 .. 255", """
                put 0 2 255 = 0; host 0 0 = 255; host 0 1 = 6; open 1 0 3 = 0; write 1 0 256 = REFUSED; write 1 0 -1 = REFUSED
                write 1 0 0 = 1; write 1 0 255 = 1; sync 1 0 = 1; host 0 0 = 0; host 0 1 = 255
                """);
        Runs.run("Terms: blocks 0 .. 7, 8 .. 15, 16 .. 23, 24 .. 31", """
                put 3 32 0 = 0; open 1 3 1 = 0; read 1 0 = 0; cached 0 = 3; seek 1 0 7 = 7; read 1 0 = 49; cached 0 = 3
                read 1 0 = 56; cached 0 = 11; seek 1 0 15 = 15; read 1 0 = 105; cached 0 = 11; read 1 0 = 112; cached 0 = 19
                seek 1 0 23 = 23; read 1 0 = 161; cached 0 = 19; read 1 0 = 168; cached 0 = 27; seek 1 0 31 = 31
                read 1 0 = 217; cached 0 = 27; cached 1 = 19; cached 2 = 11; cached 3 = 3; cached 4 = REFUSED; count 0 = 4
                """);
    }

    private static void lengthAndPolicy() {
        Runs.run("Terms: LENGTH is the host's when the file was made", "open 1 0 9 = 0; seek 1 0 0 = 0; seek 1 0 1 = REFUSED");
        Runs.run("Terms: LENGTH is the host's when the file was put", """
                put 0 5 1 = 0; open 1 0 1 = 0; seek 1 0 5 = 5; seek 1 0 6 = REFUSED; close 1 0 = 0; put 0 3 1 = 0; open 1 0 1 = 0
                seek 1 0 4 = REFUSED; seek 1 0 3 = 3; close 1 0 = 0; put 0 32 1 = 0; open 1 0 1 = 0; seek 1 0 32 = 32
                close 1 0 = 0; put 0 0 1 = 0; open 1 0 1 = 0; seek 1 0 1 = REFUSED
                """);
        Runs.run("Terms: each file has a LENGTH of its own", """
                put 0 5 1 = 0; put 1 7 1 = 0; open 1 0 7 = 0; open 1 1 1 = 1; write 1 0 1 = 1; seek 1 0 6 = 6; seek 1 0 7 = REFUSED
                seek 1 1 7 = 7; seek 1 1 8 = REFUSED
                """);
        Runs.run("Terms: policy 0 hidden, 1 to be read, 2 to be read and written", """
                put 0 1 5 = 0; policy 0 0 = 0; open 1 0 1 = ABSENT; unlink 1 0 = ABSENT; policy 0 1 = 0; open 1 0 1 = 0
                read 1 0 = 5; open 1 0 2 = DENIED; close 1 0 = 0; unlink 1 0 = DENIED; policy 0 2 = 0; open 1 0 3 = 0
                read 1 0 = 5; write 1 0 6 = 1; close 1 0 = 0; unlink 1 0 = 0
                """);
    }

    private static void cache() {
        Runs.run("Terms: the cache holds at most 5 blocks", """
                put 0 32 0 = 0; put 1 32 0 = 0; open 1 0 1 = 0; open 1 1 1 = 1; read 1 0 = 0; seek 1 0 8 = 8; read 1 0 = 56
                seek 1 0 16 = 16; read 1 0 = 112; seek 1 0 24 = 24; read 1 0 = 168; cached 3 = 0; cached 4 = REFUSED
                read 1 1 = 0; cached 4 = 0; cached 5 = REFUSED; seek 1 1 8 = 8; read 1 1 = 56; cached 4 = 8; cached 5 = REFUSED
                seek 1 0 0 = 0; read 1 0 = 0; count 0 = 7; cached 0 = 0; cached 4 = 16
                """);
        Runs.run("Terms: in the order of their last use, by read and write", States.FIVE_BLOCKS + """
                seek 1 0 16 = 16; write 1 0 1 = 1; cached 0 = 48; cached 1 = 1; cached 2 = 24; cached 3 = 8; cached 4 = 32
                seek 1 0 1 = 1; read 1 0 = 7; cached 0 = 32; cached 1 = 48; cached 2 = 1; cached 3 = 24; cached 4 = 8
                read 1 0 = 14; cached 0 = 32; cached 1 = 48; count 0 = 5
                """);
        Runs.run("Terms: other calls are no use", States.FIVE_BLOCKS + """
                seek 1 0 0 = 0; sync 1 0 = 1; dup 1 0 = 2; close 1 2 = 0; open 1 0 1 = 2; host 0 0 = 9; put 0 1 1 = BUSY
                unlink 1 0 = BUSY; policy 0 1 = 0; fork 1 = 2; exit 2 0 = 0; cached 0 = 1; cached 1 = 24; cached 2 = 16
                cached 3 = 8; cached 4 = 0
                """);
        Runs.run("Terms: a block is of one file: those of others with its number are others", """
                put 0 8 1 = 0; put 1 8 2 = 0; open 1 0 3 = 0; open 1 1 3 = 1; read 1 0 = 1; read 1 1 = 2; count 0 = 2
                write 1 0 50 = 1; read 1 1 = 9; cached 0 = 1; cached 1 = 32; seek 1 0 1 = 1; read 1 0 = 50
                """);
    }

    private static void operations() {
        Runs.run("Terms: 0 READ file block", "put 6 32 0 = 0; open 1 6 1 = 0; seek 1 0 24 = 24; read 1 0 = 168; log 0 = 240");
        Runs.run("Terms: 1 WRITE file block", """
                put 6 24 0 = 0; open 1 6 6 = 0; write 1 0 1 = 1; sync 1 0 = 1; log 0 = 241; count 0 = 1
                """);
        Runs.run("Terms: 2 MAKE, 3 EMPTY, 4 REMOVE file, with block 0", """
                open 1 6 8 = 0; log 0 = 50; open 1 6 16 = 1; log 0 = 51; close 1 0 = 0; close 1 1 = 0; unlink 1 6 = 0; log 0 = 52
                count 0 = 3
                """);
        Runs.run("Terms: each is put into the log, also if it fails", States.FIVE_BLOCKS + """
                failing 9 = 0; seek 1 1 8 = 8; read 1 1 = BROKEN; log 0 = 257; sync 1 0 = BROKEN; log 0 = 257; count 0 = 7
                open 1 0 16 = BROKEN; log 0 = 259; open 1 3 8 = BROKEN; log 0 = 282; put 2 1 1 = 0; unlink 1 2 = BROKEN
                log 0 = 276; count 0 = 10; count 4 = 4
                """);
    }

    private static void failures() {
        Runs.run("Terms: it fails as long as a number is left, which is one less then", """
                failing 2 = 0; open 1 0 8 = BROKEN; count 4 = 1; open 1 1 8 = BROKEN; count 4 = 0; open 1 0 8 = 0; count 4 = 0
                """);
        Runs.run("Terms: a failed READ does nothing", """
                put 0 8 1 = 0; open 1 0 1 = 0; failing 1 = 0; read 1 0 = BROKEN; cached 0 = REFUSED; read 1 0 = 1
                """);
        Runs.run("Terms: a failed WRITE does nothing", """
                put 0 8 1 = 0; open 1 0 6 = 0; write 1 0 5 = 1; failing 1 = 0; sync 1 0 = BROKEN; host 0 8 = END; cached 0 = 40
                """);
        Runs.run("Terms: a failed MAKE does nothing", "failing 1 = 0; open 1 0 8 = BROKEN; host 0 0 = ABSENT; count 1 = 0; open 1 0 1 = ABSENT");
        Runs.run("Terms: a failed EMPTY does nothing", """
                put 0 8 1 = 0; open 1 0 3 = 0; write 1 0 5 = 1; failing 1 = 0; open 1 0 16 = BROKEN; host 0 7 = 50
                cached 0 = 32; seek 1 0 8 = 8; count 1 = 1
                """);
        Runs.run("Terms: a failed REMOVE does nothing", """
                put 0 8 1 = 0; open 1 0 3 = 0; write 1 0 5 = 1; close 1 0 = 0; failing 1 = 0; unlink 1 0 = BROKEN; host 0 7 = 50
                cached 0 = 32; open 1 0 1 = 0; read 1 0 = 5
                """);
        Runs.run("Terms: it ends the call: no READ behind a failed WRITE", States.FIVE_BLOCKS + """
                seek 1 1 8 = 8; failing 1 = 0; read 1 1 = BROKEN; count 0 = 6; log 0 = 257
                cached 0 = 1; cached 1 = 24; cached 2 = 16; cached 3 = 8; cached 4 = 32; host 0 0 = 0
                """);
        Runs.run("Terms: it ends the call: no second WRITE behind a failed one", """
                put 0 16 0 = 0; open 1 0 3 = 0; write 1 0 1 = 1; seek 1 0 8 = 8; write 1 0 2 = 1; failing 1 = 0
                sync 1 0 = BROKEN; count 0 = 3; count 3 = 2; host 0 8 = 56
                """);
        Runs.run("Terms: what the call did before stays: the block that left for a failed READ is gone",
                States.FIVE_CLEAN_BLOCKS + """
                seek 1 1 8 = 8; failing 2 = 0; read 1 1 = BROKEN; log 0 = 328; count 0 = 7
                cached 0 = 1; cached 1 = 24; cached 2 = 16; cached 3 = 8; cached 4 = REFUSED
                read 1 1 = BROKEN; count 0 = 8; cached 3 = 8; cached 4 = REFUSED; read 1 1 = 56; cached 0 = 9; cached 4 = 8
                seek 1 0 0 = 0; read 1 0 = 9; log 0 = 0
                """);
        Runs.run("Terms: what the call did before stays, of a write", States.FIVE_CLEAN_BLOCKS + """
                open 1 1 3 = 2; seek 1 2 9 = 9; failing 1 = 0; write 1 2 5 = BROKEN; log 0 = 328; cached 3 = 8
                cached 4 = REFUSED; count 3 = 0; write 1 2 5 = 1; cached 0 = 41; read 1 2 = 70; sync 1 2 = 1
                host 1 9 = 5; host 1 8 = 56
                """);
    }

    /** Blocks 1 and 0 of file 0 (nine cells), then those of file 1 until block 1 is written and block 0 is not. */
    private static final String ONLY_BLOCK_1_WRITTEN = """
            write 1 0 101 = 1; write 1 0 102 = 1; write 1 0 103 = 1; write 1 0 104 = 1; write 1 0 105 = 1; write 1 0 106 = 1
            write 1 0 107 = 1; write 1 0 108 = 1; write 1 0 109 = 1; seek 1 0 0 = 0; read 1 0 = 101; read 1 1 = 0
            seek 1 1 8 = 8; read 1 1 = 56; seek 1 1 16 = 16; read 1 1 = 112; host 0 0 = END; seek 1 1 24 = 24; read 1 1 = 168
            log 1 = 65; host 0 8 = 109; host 0 9 = END; cached 4 = 32
            """;

    private static void hostCells() {
        Runs.run("Terms: cells that were not written since MAKE are 0 when the length comes to be above them", """
                put 0 32 1 = 0; unlink 1 0 = 0; put 1 32 0 = 0; open 1 0 11 = 0; open 1 1 1 = 1
                """ + ONLY_BLOCK_1_WRITTEN + Runs.each(0, 7, "host 0 # = 0")
                + "crash = 0; open 1 0 1 = 0\n" + Runs.each(0, 7, "read 1 0 = 0") + "read 1 0 = 109; read 1 0 = END");
        Runs.run("Terms: cells that were not written since EMPTY are 0 when the length comes to be above them", """
                put 0 32 1 = 0; put 1 32 0 = 0; open 1 0 19 = 0; open 1 1 1 = 1
                """ + ONLY_BLOCK_1_WRITTEN + Runs.each(0, 7, "host 0 # = 0")
                + "crash = 0; open 1 0 1 = 0\n" + Runs.each(0, 7, "read 1 0 = 0") + "read 1 0 = 109; read 1 0 = END");
        Runs.run("Terms: cells in blocks that never were in the cache are 0 too", """
                put 0 32 1 = 0; open 1 0 3 = 0; seek 1 0 31 = 31; open 1 0 18 = 1; write 1 0 9 = 1; sync 1 0 = 1; host 0 31 = 9
                """ + Runs.each(0, 30, "host 0 # = 0") + "crash = 0; open 1 0 1 = 0; seek 1 0 32 = 32; seek 1 0 8 = 8; read 1 0 = 0");
        Runs.run("Terms: cells that were written before EMPTY do not come back", """
                open 1 0 15 = 0; write 1 0 1 = 1; write 1 0 2 = 1; write 1 0 3 = 1; sync 1 0 = 1; host 0 2 = 3; open 1 0 19 = 1
                write 1 1 7 = 1; sync 1 1 = 1; host 0 0 = 7; host 0 1 = END; seek 1 0 0 = 0; write 1 0 8 = 1; write 1 0 9 = 1
                crash = 0; open 1 0 3 = 0; seek 1 0 1 = 1; seek 1 0 2 = REFUSED; read 1 0 = END
                """);
    }

    private static void writeOperation() {
        Runs.run("Terms: WRITE: the cells below LENGTH go to the host", """
                put 0 10 0 = 0; open 1 0 3 = 0; seek 1 0 8 = 8; write 1 0 200 = 1; sync 1 0 = 1; host 0 8 = 200; host 0 9 = 63
                host 0 10 = END; host 0 7 = 49
                """);
        Runs.run("Terms: WRITE: the host's length becomes their end, in the midst of a block", """
                put 0 10 0 = 0; open 1 0 7 = 0; write 1 0 1 = 1; write 1 0 2 = 1; sync 1 0 = 1; host 0 11 = 2; host 0 12 = END
                """);
        Runs.run("Terms: WRITE: the host's length becomes their end, at the end of a block", """
                put 0 6 0 = 0; open 1 0 7 = 0; write 1 0 1 = 1; write 1 0 2 = 1; sync 1 0 = 1; host 0 7 = 2; host 0 8 = END
                put 1 31 0 = 0; open 1 1 7 = 1; write 1 1 1 = 1; sync 1 1 = 1; host 1 31 = 1; host 1 32 = END
                """);
        Runs.run("Terms: WRITE: at least their end: a longer one stays", """
                put 0 32 0 = 0; open 1 0 3 = 0; write 1 0 99 = 1; sync 1 0 = 1; host 0 0 = 99; host 0 31 = 217; seek 1 0 32 = 32
                """);
        Runs.run("Terms: WRITE: their end, not LENGTH", """
                open 1 0 15 = 0; put 1 32 0 = 0; open 1 1 1 = 1
                """ + Runs.each(1, 17, "write 1 0 # = 1") + """
                read 1 1 = 0; seek 1 1 8 = 8; read 1 1 = 56; seek 1 1 16 = 16; read 1 1 = 112; log 1 = 1; host 0 7 = 8; host 0 8 = END
                seek 1 1 24 = 24; read 1 1 = 168; log 1 = 65; host 0 15 = 16; host 0 16 = END; sync 1 0 = 1; host 0 16 = 17
                host 0 17 = END
                """);
        Runs.run("Terms: WRITE: LENGTH as it is then, not as it was when the cell was written", """
                open 1 0 10 = 0; write 1 0 1 = 1; sync 1 0 = 1; host 0 1 = END; write 1 0 2 = 1; sync 1 0 = 1; host 0 1 = 2
                host 0 2 = END; write 1 0 3 = 1; write 1 0 4 = 1; sync 1 0 = 1; host 0 3 = 4; host 0 4 = END
                """);
    }

    private static void getBlock() {
        Runs.run("Terms: GET: in the cache: the last used one, without an operation", States.FIVE_BLOCKS + """
                failing 1 = 0; seek 1 0 1 = 1; read 1 0 = 7; count 0 = 5; count 4 = 1; cached 0 = 32; cached 1 = 1; cached 4 = 8
                """);
        Runs.run("Terms: GET: of four none leaves", """
                open 1 0 15 = 0
                """ + Runs.each(1, 25, "write 1 0 # = 1") + "count 0 = 1; count 3 = 4; put 1 8 0 = 0; open 1 1 1 = 1; read 1 1 = 0\n" + """
                count 0 = 2; log 0 = 8; cached 0 = 1; cached 1 = 56; cached 4 = 32; count 3 = 4
                """);
        Runs.run("Terms: GET: of five the one not used for the longest time is written if it is dirty, and leaves",
                States.FIVE_BLOCKS + """
                seek 1 1 8 = 8; read 1 1 = 56; count 0 = 7; log 1 = 1; log 0 = 72; host 0 0 = 9; count 3 = 0
                cached 0 = 9; cached 1 = 1; cached 2 = 24; cached 3 = 16; cached 4 = 8; cached 5 = REFUSED
                """);
        Runs.run("Terms: GET: it leaves unwritten if it is not dirty", States.FIVE_CLEAN_BLOCKS + """
                seek 1 1 8 = 8; read 1 1 = 56; count 0 = 7; log 0 = 72; cached 0 = 9; cached 4 = 8
                """);
        Runs.run("Terms: GET: a use keeps it from leaving", States.FIVE_BLOCKS + """
                seek 1 0 0 = 0; read 1 0 = 9; seek 1 1 8 = 8; read 1 1 = 56; count 0 = 6; count 3 = 1; cached 1 = 32; cached 4 = 16
                seek 1 0 8 = 8; read 1 0 = 56; log 0 = 64; cached 2 = 32; cached 4 = 24
                """);
        Runs.run("Terms: GET: the one that leaves may be of a file that is closed", """
                open 1 0 10 = 0; write 1 0 4 = 1; write 1 0 5 = 1; close 1 0 = 0; put 1 32 0 = 0; put 2 8 0 = 0
                open 1 1 1 = 0; open 1 2 1 = 1; read 1 0 = 0; seek 1 0 8 = 8; read 1 0 = 56; seek 1 0 16 = 16
                read 1 0 = 112; seek 1 0 24 = 24; read 1 0 = 168; host 0 0 = END; read 1 1 = 0
                log 1 = 1; log 0 = 16; host 0 0 = 4; host 0 1 = 5; host 0 2 = END; count 3 = 0
                """);
        Runs.run("Terms: GET: its first cell is below LENGTH: READ", """
                put 0 9 0 = 0; open 1 0 3 = 0; seek 1 0 9 = 9; write 1 0 5 = 1; count 0 = 1; log 0 = 64; seek 1 0 8 = 8; read 1 0 = 56
                put 1 1 7 = 0; open 1 1 6 = 1; write 1 1 5 = 1; count 0 = 2; log 0 = 8
                """);
        Runs.run("Terms: GET: its first cell is at LENGTH: 0 without an operation", """
                put 0 8 0 = 0; open 1 0 7 = 0; failing 1 = 0; write 1 0 5 = 1; count 0 = 0; cached 0 = 40; cached 1 = REFUSED
                put 1 0 7 = 0; open 1 1 6 = 1; write 1 1 5 = 1; count 0 = 0; cached 0 = 33; count 4 = 1
                """);
        Runs.run("Terms: GET: its first cell is above LENGTH: 0 without an operation", """
                put 0 32 1 = 0; open 1 0 3 = 0; seek 1 0 30 = 30; open 1 0 16 = 1; write 1 0 5 = 1; count 0 = 1; seek 1 0 24 = 24
                """ + Runs.each(24, 29, "read 1 0 = 0") + "read 1 0 = 5; read 1 0 = END; count 0 = 1");
        Runs.run("Terms: GET: without an operation of its own one has to leave all the same", States.FIVE_BLOCKS + """
                write 1 1 77 = 1; count 0 = 6; log 0 = 1; host 0 0 = 9; cached 0 = 49; cached 1 = 1; cached 4 = 8
                """);
        Runs.run("Terms: GET: it is not dirty, also where a dirty one was before", States.FIVE_BLOCKS + """
                seek 1 1 8 = 8; read 1 1 = 56; cached 0 = 9; count 3 = 0; seek 1 0 0 = 0; read 1 0 = 9; cached 0 = 0; count 3 = 0
                """);
        cellsAboveLength();
    }

    private static void cellsAboveLength() {
        Runs.run("Terms: cells of a block at or above LENGTH are 0, below a POSITION that others left behind", """
                put 0 8 1 = 0; open 1 0 3 = 0; open 1 0 3 = 1; seek 1 0 5 = 5; open 1 0 16 = 2; write 1 1 50 = 1; write 1 0 60 = 1
                seek 1 1 0 = 0; read 1 1 = 50; read 1 1 = 0; read 1 1 = 0; read 1 1 = 0; read 1 1 = 0; read 1 1 = 60; read 1 1 = END
                sync 1 0 = 1; host 0 0 = 50; host 0 1 = 0; host 0 4 = 0; host 0 5 = 60; host 0 6 = END
                """);
        Runs.run("Terms: cells at or above LENGTH are 0, whatever block was in that place before", States.FIVE_BLOCKS + """
                open 1 2 11 = 2; open 1 2 3 = 3; write 1 2 1 = 1; write 1 2 2 = 1; write 1 2 3 = 1; write 1 2 4 = 1
                open 1 2 16 = 4; write 1 2 9 = 1; read 1 3 = 0; read 1 3 = 0; read 1 3 = 0; read 1 3 = 0; read 1 3 = 9; read 1 3 = END
                """);
        Runs.run("Terms: nothing of blocks that left unwritten is seen in those that come", """
                put 0 32 1 = 0; put 1 32 2 = 0; open 1 0 3 = 0; open 1 1 3 = 1
                write 1 0 91 = 1; read 1 1 = 2; seek 1 0 8 = 8; write 1 0 92 = 1; seek 1 0 15 = 15; write 1 0 93 = 1
                open 1 0 16 = 2; cached 0 = 1; cached 1 = REFUSED; seek 1 1 8 = 8; read 1 1 = 58; seek 1 1 16 = 16
                read 1 1 = 114; cached 0 = 17; cached 1 = 9; cached 2 = 1; count 3 = 0; count 0 = 6
                seek 1 1 1 = 1; read 1 1 = 9; seek 1 1 9 = 9; read 1 1 = 65; seek 1 1 17 = 17; read 1 1 = 121
                write 1 0 94 = 1; seek 1 0 15 = 15; read 1 0 = 0; read 1 0 = 94; seek 1 0 9 = 9; read 1 0 = 0
                """);
    }

    private static void processes() {
        Runs.run("Terms: processes 1 .. 6", States.SIX_PROCESSES + Runs.each(1, 6, "pipe # = 8") + """
                fork 1 = FULL; pipe 0 = REFUSED; pipe 7 = REFUSED; count 1 = 12
                """);
        Runs.run("Terms: process 1 is there at first, and always", """
                count 2 = 1; pipe 1 = 8; exit 1 0 = REFUSED; pipe 1 = 26; fork 1 = 2; exit 1 0 = REFUSED; crash = 0; pipe 1 = 8
                exit 1 0 = REFUSED; fork 1 = 2
                """);
        Runs.run("Terms: 1 has no parent", States.SIX_PROCESSES + Runs.each(2, 6, "wait # = BUSY"));
        Runs.run("Terms: descriptors 0 .. 5", "put 0 9 1 = 0\n" + Runs.each(0, 5, "open 1 0 1 = #")
                + Runs.each(0, 5, "read 1 # = 1; read 1 # = 8") + """
                dup 1 0 = FULL; read 1 -1 = REFUSED; read 1 6 = REFUSED; write 1 -1 0 = REFUSED; write 1 6 0 = REFUSED
                seek 1 -1 0 = REFUSED; seek 1 6 0 = REFUSED; sync 1 -1 = REFUSED; sync 1 6 = REFUSED; dup 1 -1 = REFUSED
                dup 1 6 = REFUSED; close 1 -1 = REFUSED; close 1 6 = REFUSED
                """);
        Runs.run("Terms: alive or ended", "fork 1 = 2; wait 2 = BUSY; exit 2 0 = 0; wait 2 = REFUSED; count 2 = 2; wait 1 = 2; wait 2 = REFUSED");
    }

    private static void openings() {
        Runs.run("Terms: a POSITION, 0 at first", """
                put 0 9 1 = 0; open 1 0 1 = 0; seek 1 0 9 = 9; close 1 0 = 0; open 1 0 1 = 0; read 1 0 = 1; open 1 0 5 = 1; read 1 1 = 1
                """);
        Runs.run("Terms: an opening is there as long as a descriptor of an alive process is of it", """
                open 1 0 9 = 0; dup 1 0 = 1; fork 1 = 2; fork 2 = 3; close 1 0 = 0; count 1 = 1; close 1 1 = 0; count 1 = 1
                exit 2 0 = 0; count 1 = 1; close 3 0 = 0; count 1 = 1; unlink 1 0 = BUSY; exit 3 0 = 0; count 1 = 0; unlink 1 0 = 0
                """);
        Runs.run("Terms: there are at most 16", States.FOURTEEN_OPENINGS + """
                open 4 0 1 = 0; count 1 = 15; pipe 4 = FULL; open 4 0 1 = 1; count 1 = 16; open 4 0 1 = FULL; pipe 4 = FULL
                close 2 5 = 0; count 1 = 15; open 4 0 1 = 2; count 1 = 16; open 4 0 1 = FULL
                """);
    }

    private static void pipes() {
        Runs.run("Terms: a pipe holds at most 4 cells", States.FULL_PIPE + """
                write 1 1 15 = AGAIN; read 1 0 = 11; write 1 1 15 = 1; write 1 1 16 = AGAIN; read 1 0 = 12; read 1 0 = 13
                read 1 0 = 14; read 1 0 = 15; read 1 0 = AGAIN; write 1 1 17 = 1; read 1 0 = 17
                """);
        for (int held = 1; held <= 4; held++) {
            Runs.run("Terms: a pipe that holds " + held + " cells, round and round", "pipe 1 = 8\n" + round(held));
        }
        Runs.run("Terms: a pipe has a reader as long as that opening is there", """
                pipe 1 = 8; dup 1 0 = 2; fork 1 = 2; close 1 0 = 0; close 1 2 = 0; write 1 1 1 = 1; close 2 0 = 0; write 1 1 2 = 1
                close 2 2 = 0; write 1 1 3 = END
                """);
        Runs.run("Terms: a pipe has a writer as long as that opening is there", """
                pipe 1 = 8; dup 1 1 = 2; fork 1 = 2; close 1 1 = 0; close 1 2 = 0; read 1 0 = AGAIN; close 2 1 = 0; read 1 0 = AGAIN
                exit 2 0 = 0; read 1 0 = END
                """);
    }

    private static String round(int held) {
        StringBuilder rows = new StringBuilder();
        int written = 0;
        int read = 0;
        while (read < 30) {
            while (written < read + held) {
                rows.append("write 1 1 ").append(written++).append(" = 1\n");
            }
            rows.append(held == 4 ? "write 1 1 99 = AGAIN\n" : "");
            rows.append("read 1 0 = ").append(read++).append("\n");
        }
        return rows.toString();
    }

    private static void orderOfTests() {
        Runs.run("Terms: no alive process before other numbers and descriptors", """
                read 2 0 = REFUSED; write 2 0 1 = REFUSED; seek 2 0 0 = REFUSED; sync 2 0 = REFUSED; dup 2 0 = REFUSED
                close 2 0 = REFUSED; open 2 0 1 = REFUSED; unlink 2 0 = REFUSED; open 2 9 99 = REFUSED
                """);
        Runs.run("Terms: numbers out of range before a descriptor that is not in use", """
                write 1 0 256 = REFUSED; write 1 0 -1 = REFUSED; seek 1 0 33 = REFUSED; seek 1 0 -1 = REFUSED
                write 1 0 255 = CLOSED; seek 1 0 32 = CLOSED
                """);
        Runs.run("Terms: numbers out of range before what the promise says itself", """
                put 0 32 1 = 0; open 1 0 1 = 0; write 1 0 256 = REFUSED; write 1 0 1 = CLOSED; pipe 1 = 17; seek 1 1 33 = REFUSED
                seek 1 1 3 = CLOSED; policy 0 0 = 0; open 1 0 32 = REFUSED; open 1 0 1 = ABSENT; fork 1 = 2; exit 2 100 = REFUSED
                """);
        Runs.run("Terms: a descriptor that is not in use before what the promise says itself", """
                put 0 4 1 = 0; open 1 0 1 = 0; close 1 0 = 0; seek 1 0 5 = CLOSED; read 1 0 = CLOSED; sync 1 0 = CLOSED
                """);
    }
}
