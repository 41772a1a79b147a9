/** Promises 7 to 10: read, write, seek and sync, of pipes and of files through the cache. */
public final class CellsTest {
    public static void main(String[] args) {
        readFile();
        readPipe();
        writeFile();
        writePipe();
        writeBehindTheEnd();
        seek();
        sync();
        cacheOrder();
        usedAgain();
        failures();
        Runs.finish();
    }

    private static void readFile() {
        Runs.run("7: cell by cell", """
                put 0 10 200 = 0; open 1 0 1 = 0; read 1 0 = 200; read 1 0 = 207; seek 1 0 7 = 7; read 1 0 = 249
                read 1 0 = 0; read 1 0 = 7; read 1 0 = END; read 1 0 = END; count 0 = 2; log 0 = 64
                """);
        Runs.run("7: numbers, and an opening that does not read", """
                read 0 0 = REFUSED; read 2 0 = REFUSED; read 7 0 = REFUSED; read 1 6 = REFUSED; read 1 -1 = REFUSED
                read 1 0 = CLOSED; open 1 0 10 = 0; read 1 0 = CLOSED; open 1 0 1 = 1; read 1 1 = END; count 0 = 1
                """);
        Runs.run("7: the host fails, POSITION stays", """
                put 0 10 3 = 0; open 1 0 1 = 0; failing 1 = 0; read 1 0 = BROKEN; log 0 = 256; cached 0 = REFUSED
                read 1 0 = 3; read 1 0 = 10; count 0 = 2
                """);
    }

    private static void readPipe() {
        Runs.run("7: the oldest cell, AGAIN, END", """
                pipe 1 = 8; read 1 0 = AGAIN; write 1 1 5 = 1; write 1 1 6 = 1; read 1 0 = 5; write 1 1 7 = 1
                write 1 1 8 = 1; write 1 1 9 = 1; read 1 0 = 6; read 1 0 = 7; write 1 1 0 = 1; close 1 1 = 0
                read 1 0 = 8; read 1 0 = 9; read 1 0 = 0; read 1 0 = END
                """);
        Runs.run("7: a writer in another process is one", """
                pipe 1 = 8; fork 1 = 2; close 1 1 = 0; read 1 0 = AGAIN; dup 2 1 = 2; close 2 1 = 0; read 1 0 = AGAIN
                exit 2 0 = 0; read 1 0 = END; count 1 = 1
                """);
    }

    private static void writeFile() {
        Runs.run("8: numbers, and an opening that does not write", """
                open 1 0 11 = 0; write 1 0 0 = 1; write 1 0 255 = 1; write 1 0 256 = REFUSED; write 1 0 -1 = REFUSED
                write 1 1 256 = REFUSED; write 1 1 5 = CLOSED; write 2 0 5 = REFUSED; write 1 6 5 = REFUSED
                write 1 -1 5 = REFUSED; open 1 0 5 = 1; write 1 1 5 = CLOSED; open 1 0 1 = 2; write 1 2 5 = CLOSED
                read 1 2 = 0; read 1 2 = 255; read 1 2 = END
                """);
        Runs.run("8: the block is GOT, and becomes dirty", """
                put 0 12 0 = 0; open 1 0 3 = 0; seek 1 0 9 = 9; write 1 0 200 = 1; log 0 = 64; cached 0 = 40
                read 1 0 = 70; read 1 0 = 77; write 1 0 201 = 1; read 1 0 = END; host 0 9 = 63; count 0 = 1
                seek 1 0 8 = 8; read 1 0 = 56; read 1 0 = 200; sync 1 0 = 1; host 0 8 = 56; host 0 9 = 200
                host 0 12 = 201; host 0 13 = END; host 0 7 = 49
                """);
        Runs.run("8: POSITION 32", """
                put 0 32 0 = 0; open 1 0 3 = 0; seek 1 0 31 = 31; write 1 0 5 = 1; write 1 0 6 = FULL; read 1 0 = END
                seek 1 0 31 = 31; read 1 0 = 5; open 1 0 7 = 1; read 1 1 = 0; write 1 1 9 = FULL; read 1 1 = 7
                """);
        Runs.run("8: one that appends", """
                put 0 4 0 = 0; open 1 0 7 = 0; open 1 0 3 = 1; read 1 0 = 0; write 1 0 50 = 1; read 1 0 = END
                seek 1 1 5 = 5; write 1 1 51 = 1; seek 1 0 0 = 0; write 1 0 52 = 1; read 1 1 = 52; read 1 1 = END
                seek 1 0 4 = 4; read 1 0 = 50; read 1 0 = 51; read 1 0 = 52
                """);
        Runs.run("8: a first cell of a block at LENGTH needs no READ", """
                put 0 8 0 = 0; open 1 0 7 = 0; write 1 0 50 = 1; count 0 = 0; cached 0 = 40; cached 1 = REFUSED
                sync 1 0 = 1; host 0 8 = 50; host 0 9 = END; count 0 = 1; log 0 = 65
                """);
    }

    private static void writePipe() {
        Runs.run("8: four cells", """
                pipe 1 = 8; write 1 1 1 = 1; write 1 1 2 = 1; write 1 1 255 = 1; write 1 1 0 = 1; write 1 1 5 = AGAIN
                write 1 1 256 = REFUSED; read 1 0 = 1; write 1 1 6 = 1; write 1 1 7 = AGAIN; read 1 0 = 2
                read 1 0 = 255; read 1 0 = 0; read 1 0 = 6; read 1 0 = AGAIN; count 0 = 0
                """);
        Runs.run("8: no reader: END before AGAIN", """
                pipe 1 = 8; write 1 1 1 = 1; write 1 1 1 = 1; write 1 1 1 = 1; write 1 1 1 = 1; dup 1 0 = 2
                close 1 0 = 0; write 1 1 1 = AGAIN; close 1 2 = 0; write 1 1 1 = END
                """);
        Runs.run("8: a new opening in the reader's place is no reader", """
                pipe 1 = 8; close 1 0 = 0; pipe 1 = 16; write 1 1 1 = END; write 1 2 3 = 1; read 1 0 = 3
                """);
    }

    private static void writeBehindTheEnd() {
        Runs.run("8: POSITION above LENGTH after EMPTY: the cells between are 0", """
                put 0 32 1 = 0; open 1 0 3 = 0; seek 1 0 20 = 20; open 1 0 16 = 1; read 1 0 = END; write 1 0 9 = 1
                count 0 = 1; cached 0 = 48; cached 1 = REFUSED; seek 1 0 0 = 0; read 1 0 = 0; log 0 = 0; count 0 = 2
                seek 1 0 16 = 16; read 1 0 = 0; seek 1 0 20 = 20; read 1 0 = 9; read 1 0 = END
                sync 1 1 = 1; log 0 = 129; host 0 0 = 0; host 0 15 = 0; host 0 19 = 0; host 0 20 = 9; host 0 21 = END
                """);
        Runs.run("8: the host's cells between come to be 0 too", """
                put 0 32 1 = 0; open 1 0 3 = 0; seek 1 0 31 = 31; open 1 0 18 = 1; write 1 0 9 = 1; sync 1 0 = 1
                crash = 0; host 0 31 = 9; host 0 30 = 0; open 1 0 1 = 0; seek 1 0 32 = 32; seek 1 0 8 = 8; read 1 0 = 0
                """);
        Runs.run("8: WRITE takes the cells below LENGTH as it is then", """
                open 1 0 10 = 0; write 1 0 1 = 1; sync 1 0 = 1; host 0 1 = END; write 1 0 2 = 1; sync 1 0 = 1
                host 0 1 = 2; host 0 2 = END; write 1 0 3 = 1; write 1 0 4 = 1; write 1 0 5 = 1; write 1 0 6 = 1
                write 1 0 7 = 1; write 1 0 8 = 1; write 1 0 9 = 1; sync 1 0 = 2; log 0 = 65; log 1 = 1; host 0 8 = 9
                host 0 9 = END; host 0 7 = 8
                """);
    }

    private static void seek() {
        Runs.run("9: numbers", """
                put 0 32 0 = 0; open 1 0 0 = 0; seek 1 0 32 = 32; seek 1 0 0 = 0; seek 1 0 33 = REFUSED
                seek 1 0 -1 = REFUSED; seek 1 1 33 = REFUSED; seek 1 1 32 = CLOSED; seek 2 0 0 = REFUSED
                seek 1 6 0 = REFUSED; seek 1 -1 0 = REFUSED; seek 1 0 2147483647 = REFUSED; count 0 = 0
                """);
        Runs.run("9: to LENGTH, which is the kernel's", """
                open 1 0 11 = 0; seek 1 0 1 = REFUSED; write 1 0 5 = 1; seek 1 0 1 = 1; seek 1 0 2 = REFUSED
                read 1 0 = END; seek 1 0 0 = 0; read 1 0 = 5
                """);
    }

    private static void sync() {
        Runs.run("10: by number; the order of use stays", """
                put 0 32 0 = 0; put 1 8 0 = 0; open 1 0 3 = 0; open 1 1 3 = 1; write 1 1 1 = 1
                seek 1 0 24 = 24; write 1 0 1 = 1; seek 1 0 8 = 8; write 1 0 2 = 1; seek 1 0 16 = 16; read 1 0 = 112
                seek 1 0 0 = 0; write 1 0 3 = 1; count 3 = 4; count 0 = 5
                sync 1 0 = 3; count 0 = 8; log 2 = 1; log 1 = 65; log 0 = 193; count 3 = 1
                cached 0 = 0; cached 1 = 16; cached 2 = 8; cached 3 = 24; cached 4 = 33
                host 0 0 = 3; host 0 8 = 2; host 0 24 = 1; host 1 0 = 0; sync 1 0 = 0; count 0 = 8
                """);
        Runs.run("10: a failure ends it, the blocks stay dirty", """
                put 0 32 0 = 0; open 1 0 3 = 0; write 1 0 9 = 1; seek 1 0 8 = 8; write 1 0 9 = 1; sync 1 0 = 2
                seek 1 0 0 = 0; write 1 0 8 = 1; seek 1 0 8 = 8; write 1 0 8 = 1; failing 1 = 0
                sync 1 0 = BROKEN; log 0 = 257; host 0 0 = 9; count 3 = 2; count 4 = 0; sync 1 0 = 2; host 0 8 = 8
                """);
        Runs.run("10: numbers", """
                sync 1 0 = CLOSED; sync 1 6 = REFUSED; sync 1 -1 = REFUSED; sync 2 0 = REFUSED; sync 0 0 = REFUSED
                put 0 1 1 = 0; open 1 0 0 = 0; sync 1 0 = 0; count 0 = 0
                """);
    }

    private static void cacheOrder() {
        Runs.run("cache: the one not used for the longest time leaves, written if dirty", """
                put 0 32 0 = 0; put 1 32 0 = 0; open 1 0 3 = 0; open 1 1 1 = 1
                write 1 0 9 = 1; seek 1 0 8 = 8; read 1 0 = 56; seek 1 0 16 = 16; write 1 0 9 = 1
                seek 1 0 24 = 24; read 1 0 = 168; read 1 1 = 0; count 0 = 5; cached 4 = 32
                seek 1 0 0 = 0; read 1 0 = 9; cached 4 = 8; cached 0 = 32
                seek 1 1 8 = 8; read 1 1 = 56; count 0 = 6; log 0 = 72; cached 4 = 48; cached 3 = 24
                seek 1 1 16 = 16; read 1 1 = 112; count 0 = 8; log 1 = 129; log 0 = 136; host 0 16 = 9
                cached 0 = 17; cached 1 = 9; cached 2 = 32; cached 3 = 1; cached 4 = 24; cached 5 = REFUSED
                """);
        Runs.run("cache: a dirty block of a file that is closed is written with its LENGTH", """
                open 1 0 10 = 0; write 1 0 4 = 1; write 1 0 5 = 1; close 1 0 = 0; put 1 32 0 = 0; put 2 8 0 = 0
                open 1 1 1 = 0; open 1 2 1 = 1; read 1 0 = 0; seek 1 0 8 = 8; read 1 0 = 56; seek 1 0 16 = 16
                read 1 0 = 112; seek 1 0 24 = 24; read 1 0 = 168; host 0 0 = END; read 1 1 = 0
                log 1 = 1; log 0 = 16; host 0 0 = 4; host 0 1 = 5; host 0 2 = END; count 3 = 0
                """);
    }

    private static void usedAgain() {
        Runs.run("cache: nothing of blocks that left unwritten is seen in those that come", """
                put 0 32 1 = 0; put 1 32 2 = 0; open 1 0 3 = 0; open 1 1 3 = 1
                write 1 0 91 = 1; read 1 1 = 2; seek 1 0 8 = 8; write 1 0 92 = 1; seek 1 0 15 = 15; write 1 0 93 = 1
                open 1 0 16 = 2; cached 0 = 1; cached 1 = REFUSED; seek 1 1 8 = 8; read 1 1 = 58; seek 1 1 16 = 16
                read 1 1 = 114; cached 0 = 17; cached 1 = 9; cached 2 = 1; count 3 = 0; count 0 = 6
                seek 1 1 1 = 1; read 1 1 = 9; seek 1 1 9 = 9; read 1 1 = 65; seek 1 1 17 = 17; read 1 1 = 121
                write 1 0 94 = 1; seek 1 0 15 = 15; read 1 0 = 0; read 1 0 = 94; seek 1 0 9 = 9; read 1 0 = 0
                """);
        Runs.run("cache: cells of a block above LENGTH are 0, whatever was there before", """
                put 0 8 1 = 0; put 1 32 2 = 0; open 1 0 3 = 0; open 1 1 1 = 1
                seek 1 0 7 = 7; read 1 0 = 50; open 1 0 16 = 2; write 1 0 9 = 1; cached 0 = 40; seek 1 0 7 = 7
                open 1 0 16 = 3; read 1 1 = 2; seek 1 1 8 = 8; read 1 1 = 58; crash = 0
                open 1 0 3 = 0; open 1 0 3 = 1; write 1 0 1 = 1; write 1 0 2 = 1; write 1 0 3 = 1; open 1 0 16 = 2
                write 1 0 4 = 1; count 0 = 6; read 1 1 = 0; read 1 1 = 0; read 1 1 = 0; read 1 1 = 4; read 1 1 = END
                """);
        Runs.run("5: a file where a pipe was open before", """
                pipe 1 = 8; close 1 0 = 0; close 1 1 = 0; put 0 4 9 = 0; open 1 0 3 = 0; read 1 0 = 9; seek 1 0 3 = 3
                put 0 1 1 = BUSY; open 1 0 3 = 1; read 1 1 = 9; write 1 1 5 = 1; sync 1 1 = 1
                """);
    }

    private static final String FIVE_BLOCKS = """
            put 0 32 0 = 0; put 1 16 0 = 0; open 1 0 3 = 0; open 1 1 7 = 1
            write 1 0 9 = 1; seek 1 0 8 = 8; read 1 0 = 56; seek 1 0 16 = 16; read 1 0 = 112
            seek 1 0 24 = 24; read 1 0 = 168; read 1 1 = 0; count 0 = 5; cached 4 = 32
            """;

    private static void failures() {
        Runs.run("failed WRITE: the block stays, dirty", FIVE_BLOCKS + """
                seek 1 1 8 = 8; failing 1 = 0; read 1 1 = BROKEN; log 0 = 257; count 0 = 6; cached 4 = 32; cached 0 = 1
                host 0 0 = 0; read 1 1 = 56; log 1 = 1; log 0 = 72; host 0 0 = 9; cached 4 = 8
                """);
        Runs.run("failed READ: the one that left stays away", FIVE_BLOCKS + """
                seek 1 0 0 = 0; sync 1 0 = 1; seek 1 1 8 = 8; failing 1 = 0; read 1 1 = BROKEN
                log 0 = 328; count 0 = 7; cached 3 = 8; cached 4 = REFUSED; read 1 1 = 56; cached 4 = 8; count 0 = 8
                """);
        Runs.run("8: BROKEN leaves POSITION and LENGTH", FIVE_BLOCKS + """
                seek 1 1 3 = 3; failing 1 = 0; write 1 1 5 = BROKEN; read 1 1 = 21; seek 1 1 17 = REFUSED
                count 3 = 1; seek 1 0 1 = 1; read 1 0 = 7; cached 0 = 32; cached 4 = 8; seek 1 1 3 = 3
                write 1 1 5 = 1; count 0 = 6; log 0 = 257; cached 0 = 49; read 1 1 = END; seek 1 1 16 = 16; read 1 1 = 5
                """);
        Runs.run("8: a READ that failed for a write", FIVE_BLOCKS + """
                open 1 1 3 = 2; seek 1 2 9 = 9; seek 1 0 0 = 0
                sync 1 0 = 1; failing 1 = 0; write 1 2 5 = BROKEN; log 0 = 328; cached 3 = 8; cached 4 = REFUSED
                count 3 = 0; write 1 2 5 = 1; cached 0 = 41; read 1 2 = 70; sync 1 2 = 1; host 1 9 = 5; host 1 8 = 56
                """);
    }
}
