/** Promise 5: open. */
public final class Promise05Test {
    public static void main(String[] args) {
        numbers();
        whatModesDo();
        absent();
        denied();
        full();
        make();
        empty();
        descriptorAndOpening();
        Runs.finish();
    }

    private static void numbers() {
        Runs.run("5: no alive process with that number: REFUSED", """
                put 0 4 1 = 0; open 0 0 1 = REFUSED; open 2 0 1 = REFUSED; open 7 0 1 = REFUSED; open -1 0 1 = REFUSED
                open 2147483647 0 1 = REFUSED; open -2147483648 0 1 = REFUSED
                fork 1 = 2; exit 2 0 = 0; open 2 0 1 = REFUSED; count 1 = 0
                """);
        Runs.run("5: a file 0 .. 7, else REFUSED", """
                open 1 0 8 = 0; open 1 7 8 = 1; open 1 -1 8 = REFUSED; open 1 8 8 = REFUSED
                open 1 2147483647 8 = REFUSED; open 1 -2147483648 8 = REFUSED; count 0 = 2
                """);
        Runs.run("5: a mode 0 .. 31, else REFUSED", """
                put 0 4 1 = 0; open 1 0 0 = 0; open 1 0 31 = 1; open 1 0 -1 = REFUSED; open 1 0 32 = REFUSED
                open 1 0 33 = REFUSED; open 1 0 2147483647 = REFUSED; open 1 0 -2147483648 = REFUSED; count 1 = 2
                """);
        Runs.run("5: REFUSED before ABSENT, DENIED and FULL", States.SIX_DESCRIPTORS + """
                open 1 0 32 = REFUSED; open 1 8 1 = REFUSED; open 1 3 32 = REFUSED; policy 0 0 = 0; open 1 0 32 = REFUSED
                policy 0 1 = 0; open 1 0 34 = REFUSED
                """);
    }

    private static void whatModesDo() {
        Runs.run("5: 0: it neither reads nor writes", """
                put 0 4 1 = 0; open 1 0 0 = 0; read 1 0 = CLOSED; write 1 0 1 = CLOSED; seek 1 0 4 = 4; sync 1 0 = 0
                """);
        Runs.run("5: 1: it reads", "put 0 4 1 = 0; open 1 0 1 = 0; write 1 0 1 = CLOSED; read 1 0 = 1");
        Runs.run("5: 2: it writes", "put 0 4 1 = 0; open 1 0 2 = 0; read 1 0 = CLOSED; write 1 0 1 = 1; count 3 = 1");
        Runs.run("5: 4: it appends, if it writes", """
                put 0 4 1 = 0; open 1 0 4 = 0; write 1 0 9 = CLOSED; read 1 0 = CLOSED; open 1 0 5 = 1
                write 1 1 9 = CLOSED; read 1 1 = 1; open 1 0 6 = 2; write 1 2 9 = 1; seek 1 1 4 = 4; read 1 1 = 9
                """);
        Runs.run("5: 8: made if it is not there, left alone if it is", """
                open 1 0 8 = 0; log 0 = 2; read 1 0 = CLOSED; write 1 0 1 = CLOSED
                put 1 4 7 = 0; open 1 1 11 = 1; count 0 = 1; read 1 1 = 7; seek 1 1 4 = 4
                """);
        Runs.run("5: 16: emptied, also if it does not write", """
                put 0 4 1 = 0; open 1 0 17 = 0; log 0 = 3; host 0 0 = END; read 1 0 = END; write 1 0 1 = CLOSED
                """);
        Runs.run("5: 31: all of it", """
                open 1 0 31 = 0; write 1 0 5 = 1; read 1 0 = END; seek 1 0 0 = 0; write 1 0 6 = 1; seek 1 0 0 = 0
                read 1 0 = 5; read 1 0 = 6; open 1 0 31 = 1; read 1 0 = END; log 0 = 3
                """);
    }

    private static void absent() {
        Runs.run("5: hidden: ABSENT with every mode, there or not",
                "policy 0 0 = 0; policy 1 0 = 0; put 1 4 1 = 0\n"
                + Runs.each(0, 31, "open 1 0 # = ABSENT; open 1 1 # = ABSENT") + "count 0 = 0; count 1 = 0; host 1 3 = 22");
        Runs.run("5: not there and not to be made: ABSENT",
                Runs.each(0, 7, "open 1 0 # = ABSENT") + Runs.each(16, 23, "open 1 0 # = ABSENT") + "count 0 = 0");
        Runs.run("5: not there any more: ABSENT", "put 0 4 1 = 0; unlink 1 0 = 0; open 1 0 1 = ABSENT; open 1 0 16 = ABSENT");
        Runs.run("5: ABSENT before DENIED", "policy 0 1 = 0; open 1 0 2 = ABSENT; open 1 0 4 = ABSENT; open 1 0 16 = ABSENT");
        Runs.run("5: ABSENT before FULL", States.SIX_DESCRIPTORS + """
                open 1 1 1 = ABSENT; policy 0 0 = 0; open 1 0 1 = ABSENT; policy 1 0 = 0; open 1 1 8 = ABSENT
                """);
    }

    private static void denied() {
        Runs.run("5: policy 1 and 2, 4, 8 or 16 in the mode: DENIED", "policy 0 1 = 0; put 0 4 1 = 0\n"
                + Runs.each(2, 31, "open 1 0 # = DENIED") + "count 0 = 0; count 1 = 0; open 1 0 0 = 0; open 1 0 1 = 1");
        Runs.run("5: policy 1 and to be made: DENIED, also if it is not there", """
                policy 0 1 = 0; open 1 0 8 = DENIED; open 1 0 9 = DENIED; host 0 0 = ABSENT; count 0 = 0
                """);
        Runs.run("5: DENIED before FULL", States.SIX_DESCRIPTORS + "policy 0 1 = 0; open 1 0 2 = DENIED; open 1 0 1 = FULL");
    }

    private static void full() {
        Runs.run("5: six descriptors, a seventh: FULL",
                "put 0 4 9 = 0\n" + Runs.each(0, 5, "open 1 0 1 = #") + "open 1 0 1 = FULL; count 1 = 6; close 1 5 = 0; open 1 0 1 = 5");
        Runs.run("5: the descriptors of another process do not count", States.SIX_DESCRIPTORS + """
                open 1 0 1 = FULL; fork 1 = 2; open 2 0 1 = FULL; close 2 3 = 0; open 1 0 1 = FULL; open 2 0 1 = 3
                """);
        Runs.run("5: sixteen openings, a seventeenth: FULL", States.FOURTEEN_OPENINGS + """
                open 3 0 1 = 2; open 3 0 1 = 3; count 1 = 16; open 3 0 1 = FULL; open 4 0 1 = FULL
                close 3 0 = 0; open 4 0 1 = 0; open 4 0 1 = FULL; count 1 = 16
                """);
        Runs.run("5: ends of pipes are openings too", States.FOURTEEN_OPENINGS + """
                pipe 4 = 8; open 3 0 1 = FULL; close 4 0 = 0; open 3 0 1 = 2; open 3 0 1 = FULL; close 4 1 = 0; open 3 0 1 = 3
                """);
        Runs.run("5: descriptors of one opening are one", States.FOURTEEN_OPENINGS + """
                dup 3 0 = 2; dup 3 0 = 3; fork 3 = 5; open 4 0 1 = 0; open 4 0 1 = 1; open 4 0 1 = FULL
                close 3 0 = 0; close 3 2 = 0; close 3 3 = 0; open 4 0 1 = FULL; exit 5 0 = 0; open 4 0 1 = 2
                """);
        Runs.run("5: FULL before MAKE and EMPTY, which do not come then", States.SIX_DESCRIPTORS + """
                failing 2 = 0; open 1 1 8 = FULL; open 1 0 16 = FULL; count 0 = 0; count 4 = 2; host 1 0 = ABSENT; host 0 3 = 22
                """);
        Runs.run("5: FULL for want of openings before MAKE and EMPTY", States.FOURTEEN_OPENINGS + """
                pipe 4 = 8; open 4 1 8 = FULL; open 4 0 16 = FULL; count 0 = 0; host 1 0 = ABSENT; host 0 3 = 30
                """);
    }

    private static void make() {
        Runs.run("5: not there: MAKE, with LENGTH 0", """
                open 1 6 11 = 0; log 0 = 50; count 0 = 1; host 6 0 = END; read 1 0 = END; seek 1 0 1 = REFUSED; seek 1 0 0 = 0
                """);
        Runs.run("5: MAKE with 16 too: there is nothing to empty", "open 1 6 24 = 0; count 0 = 1; log 0 = 50");
        Runs.run("5: once it is made it is there", "open 1 6 8 = 0; open 1 6 8 = 1; open 1 6 1 = 2; count 0 = 1");
        Runs.run("5: MAKE again after unlink: LENGTH 0, whatever was there", """
                put 6 20 1 = 0; open 1 6 1 = 0; read 1 0 = 1; close 1 0 = 0; unlink 1 6 = 0; open 1 6 11 = 0; log 0 = 50
                seek 1 0 1 = REFUSED; read 1 0 = END; host 6 0 = END
                """);
        Runs.run("5: a failed MAKE: not there, no opening, the descriptor is free", """
                failing 1 = 0; open 1 6 9 = BROKEN; log 0 = 306; host 6 0 = ABSENT; count 1 = 0; read 1 0 = CLOSED
                open 1 6 1 = ABSENT; open 1 6 9 = 0; log 0 = 50
                """);
    }

    private static void empty() {
        Runs.run("5: there and to be emptied: EMPTY, LENGTH 0", """
                put 5 20 1 = 0; open 1 5 1 = 0; seek 1 0 20 = 20; open 1 5 17 = 1; log 0 = 43; count 0 = 1
                host 5 0 = END; seek 1 0 1 = REFUSED; read 1 0 = END; read 1 1 = END
                """);
        Runs.run("5: EMPTY also with 8, and of one that is empty", """
                put 5 0 1 = 0; open 1 5 24 = 0; log 0 = 43; open 1 5 16 = 1; count 0 = 2
                """);
        Runs.run("5: its blocks leave the cache unwritten, those of others stay in their order", """
                put 0 20 1 = 0; put 1 9 1 = 0; open 1 0 3 = 0; open 1 1 3 = 1; write 1 0 77 = 1; read 1 1 = 1
                seek 1 0 8 = 8; write 1 0 78 = 1; seek 1 1 8 = 8; write 1 1 57 = 1; cached 3 = 32; count 3 = 3
                open 1 0 16 = 2; log 0 = 3; count 0 = 5; count 3 = 1; cached 0 = 41; cached 1 = 1; cached 2 = REFUSED
                host 0 0 = END; host 1 8 = 57; seek 1 1 0 = 0; read 1 1 = 1; cached 0 = 1; cached 1 = 41; count 0 = 5
                """);
        Runs.run("5: all blocks of a full cache leave when they are its", """
                put 0 32 1 = 0; put 1 1 1 = 0; open 1 0 3 = 0; open 1 1 1 = 1; read 1 1 = 1
                write 1 0 1 = 1; seek 1 0 8 = 8; write 1 0 1 = 1; seek 1 0 16 = 16; write 1 0 1 = 1; seek 1 0 24 = 24
                write 1 0 1 = 1; count 3 = 4; open 1 0 16 = 2; count 3 = 0; cached 0 = 1; cached 1 = REFUSED; sync 1 0 = 0
                """);
        Runs.run("5: a failed EMPTY: LENGTH, cells and blocks stay, no opening", """
                put 0 4 9 = 0; open 1 0 3 = 0; write 1 0 5 = 1; failing 1 = 0; open 1 0 19 = BROKEN; log 0 = 259
                count 1 = 1; read 1 1 = CLOSED; cached 0 = 32; host 0 0 = 9; host 0 3 = 30; seek 1 0 4 = 4; seek 1 0 0 = 0
                read 1 0 = 5; open 1 0 19 = 1; log 0 = 3; read 1 0 = END
                """);
        Runs.run("5: POSITION of the other openings stays", """
                put 0 32 1 = 0; open 1 0 3 = 0; seek 1 0 5 = 5; open 1 0 16 = 1; write 1 0 9 = 1; seek 1 0 6 = 6
                seek 1 0 7 = REFUSED; seek 1 0 5 = 5; read 1 0 = 9
                """);
    }

    private static void descriptorAndOpening() {
        Runs.run("5: the least free descriptor",
                "put 0 4 9 = 0\n" + Runs.each(0, 5, "open 1 0 1 = #") + """
                close 1 4 = 0; close 1 2 = 0; open 1 0 1 = 2; open 1 0 1 = 4; close 1 0 = 0; open 1 0 1 = 0; open 1 0 1 = FULL
                """);
        Runs.run("5: a new opening has a POSITION of its own, 0 at first", """
                put 0 4 9 = 0; open 1 0 1 = 0; read 1 0 = 9; open 1 0 1 = 1; read 1 1 = 9; read 1 0 = 16
                close 1 0 = 0; open 1 0 1 = 0; read 1 0 = 9
                """);
        Runs.run("5: one that appends has POSITION 0 at first too", "put 0 4 9 = 0; open 1 0 7 = 0; read 1 0 = 9");
        Runs.run("5: a file where a pipe was open before", """
                pipe 1 = 8; close 1 0 = 0; close 1 1 = 0; put 0 4 9 = 0; open 1 0 3 = 0; read 1 0 = 9; seek 1 0 3 = 3
                put 0 1 1 = BUSY; open 1 0 3 = 1; read 1 1 = 9; write 1 1 5 = 1; sync 1 1 = 1
                """);
    }
}
