/** Promises 5, 6, 11, 12 and 13: open, pipe, dup, close and unlink. */
public final class OpeningTest {
    public static void main(String[] args) {
        openNumbers();
        openOrder();
        openFile();
        openLimits();
        pipe();
        dup();
        close();
        unlink();
        Runs.finish();
    }

    private static void openNumbers() {
        Runs.run("5: wrong numbers", """
                put 0 4 1 = 0; open 0 0 1 = REFUSED; open 2 0 1 = REFUSED; open 7 0 1 = REFUSED; open -1 0 1 = REFUSED
                open 1 -1 1 = REFUSED; open 1 8 1 = REFUSED; open 1 0 -1 = REFUSED; open 1 0 32 = REFUSED
                open 2147483647 0 1 = REFUSED; open 1 0 -2147483648 = REFUSED; count 0 = 0; count 1 = 0
                fork 1 = 2; exit 2 0 = 0; open 2 0 1 = REFUSED; open 1 0 0 = 0; open 1 0 31 = 1
                """);
    }

    private static void openOrder() {
        Runs.run("5: ABSENT before DENIED before FULL", """
                open 1 0 1 = ABSENT; open 1 0 23 = ABSENT; policy 0 0 = 0; open 1 0 8 = ABSENT
                policy 0 1 = 0; open 1 0 2 = ABSENT; open 1 0 8 = DENIED; open 1 0 1 = ABSENT
                put 0 4 1 = 0; open 1 0 2 = DENIED; open 1 0 4 = DENIED; open 1 0 8 = DENIED; open 1 0 16 = DENIED
                open 1 0 3 = DENIED; open 1 0 1 = 0; open 1 0 0 = 1; dup 1 0 = 2; dup 1 0 = 3; dup 1 0 = 4; dup 1 0 = 5
                open 1 0 1 = FULL; open 1 0 2 = DENIED; open 1 1 1 = ABSENT; policy 0 0 = 0; open 1 0 1 = ABSENT
                """);
        Runs.run("5: FULL before the operation", """
                put 0 4 1 = 0; open 1 0 1 = 0; dup 1 0 = 1; dup 1 0 = 2; dup 1 0 = 3; dup 1 0 = 4; dup 1 0 = 5
                open 1 1 8 = FULL; open 1 0 16 = FULL; count 0 = 0; host 1 0 = ABSENT; host 0 3 = 22
                """);
    }

    private static void openFile() {
        Runs.run("5: MAKE, which leaves nothing to empty", """
                open 1 6 24 = 0; log 0 = 50; count 0 = 1; host 6 0 = END; read 1 0 = CLOSED; write 1 0 1 = CLOSED
                open 1 6 8 = 1; count 0 = 1
                """);
        Runs.run("5: EMPTY: LENGTH 0, and its blocks leave the cache unwritten", """
                put 0 20 1 = 0; put 1 9 1 = 0; open 1 0 3 = 0; open 1 1 3 = 1; write 1 0 77 = 1; read 1 1 = 1
                seek 1 0 8 = 8; write 1 0 78 = 1; seek 1 1 8 = 8; read 1 1 = 57; cached 3 = 32
                open 1 0 16 = 2; log 0 = 3; count 3 = 0; cached 0 = 9; cached 1 = 1; cached 2 = REFUSED
                host 0 0 = END; seek 1 0 0 = 0; read 1 0 = END; seek 1 0 1 = REFUSED
                seek 1 1 0 = 0; read 1 1 = 1; cached 0 = 1; cached 1 = 9; count 0 = 5
                """);
        Runs.run("5: MAKE and EMPTY may fail", """
                put 0 4 9 = 0; open 1 0 3 = 0; write 1 0 5 = 1; failing 2 = 0
                open 1 0 19 = BROKEN; log 0 = 259; count 1 = 1; cached 0 = 32; host 0 3 = 30; seek 1 0 4 = 4
                open 1 1 9 = BROKEN; log 0 = 266; host 1 0 = ABSENT; open 1 1 1 = ABSENT; open 1 1 9 = 1; open 1 0 17 = 2
                """);
        Runs.run("5: a position of its own, from 0", """
                put 0 4 9 = 0; open 1 0 1 = 0; read 1 0 = 9; open 1 0 5 = 1; read 1 1 = 9; read 1 0 = 16
                close 1 0 = 0; open 1 0 1 = 0; read 1 0 = 9
                """);
    }

    private static void openLimits() {
        Runs.run("5: the least free descriptor, to six", """
                put 0 4 9 = 0; open 1 0 1 = 0; open 1 0 1 = 1; open 1 0 1 = 2; open 1 0 1 = 3; open 1 0 1 = 4
                open 1 0 1 = 5; open 1 0 1 = FULL; close 1 4 = 0; close 1 2 = 0; open 1 0 1 = 2; open 1 0 1 = 4
                """);
        Runs.run("5, 6: sixteen openings", """
                put 0 4 9 = 0; fork 1 = 2; fork 1 = 3; fork 1 = 4
                open 1 0 1 = 0; open 1 0 1 = 1; open 1 0 1 = 2; open 1 0 1 = 3; open 1 0 1 = 4; open 1 0 1 = 5
                open 2 0 1 = 0; open 2 0 1 = 1; open 2 0 1 = 2; open 2 0 1 = 3; open 2 0 1 = 4; open 2 0 1 = 5
                pipe 3 = 8; count 1 = 14; pipe 3 = 26; count 1 = 16; pipe 3 = FULL; open 3 0 1 = FULL
                open 4 0 1 = FULL; dup 3 0 = 4; count 1 = 16; close 3 4 = 0; open 4 0 1 = FULL
                close 3 2 = 0; count 1 = 15; pipe 4 = FULL; open 4 0 1 = 0; close 3 3 = 0; count 1 = 15
                close 3 0 = 0; count 1 = 14; pipe 4 = 17; open 4 7 1 = ABSENT; open 4 7 8 = FULL
                """);
    }

    private static void pipe() {
        Runs.run("6: descriptors", """
                pipe 1 = 8; pipe 1 = 26; close 1 1 = 0; pipe 1 = 33; pipe 1 = FULL; count 1 = 5
                close 1 0 = 0; pipe 1 = 40
                """);
        Runs.run("6: one free descriptor is not enough", """
                pipe 1 = 8; pipe 1 = 26; dup 1 0 = 4; pipe 1 = FULL; dup 1 0 = 5; pipe 1 = FULL; count 1 = 4
                """);
        Runs.run("6: wrong numbers", """
                pipe 0 = REFUSED; pipe 2 = REFUSED; pipe 7 = REFUSED; pipe -2147483648 = REFUSED; count 1 = 0
                """);
        Runs.run("6: a new pipe is empty, and its ends do only one thing", """
                pipe 1 = 8; write 1 1 5 = 1; close 1 0 = 0; close 1 1 = 0; pipe 1 = 8; read 1 0 = AGAIN
                write 1 0 1 = CLOSED; read 1 1 = CLOSED; seek 1 0 0 = CLOSED; seek 1 1 0 = CLOSED
                sync 1 0 = CLOSED; sync 1 1 = CLOSED; seek 1 0 33 = REFUSED
                """);
    }

    private static void dup() {
        Runs.run("11: the same opening", """
                put 0 9 1 = 0; open 1 0 3 = 0; dup 1 0 = 1; count 1 = 1; read 1 0 = 1; read 1 1 = 8; seek 1 1 5 = 5
                read 1 0 = 36; close 1 0 = 0; read 1 1 = 43; dup 1 1 = 0; read 1 0 = 50; count 1 = 1
                """);
        Runs.run("11: numbers and limits", """
                dup 1 0 = CLOSED; dup 1 6 = REFUSED; dup 1 -1 = REFUSED; dup 2 0 = REFUSED; dup 0 0 = REFUSED
                pipe 1 = 8; dup 1 1 = 2; dup 1 0 = 3; dup 1 0 = 4; dup 1 0 = 5; dup 1 0 = FULL
                close 1 3 = 0; dup 1 3 = CLOSED; dup 1 1 = 3; count 1 = 2
                """);
    }

    private static void close() {
        Runs.run("12: the last one takes the opening along", """
                open 1 0 11 = 0; dup 1 0 = 1; close 1 0 = 0; count 1 = 1; close 1 0 = CLOSED; unlink 1 0 = BUSY
                close 1 1 = 0; count 1 = 0; unlink 1 0 = 0
                """);
        Runs.run("12: the cache keeps the blocks", """
                open 1 0 11 = 0; write 1 0 5 = 1; close 1 0 = 0; count 3 = 1; host 0 0 = END; cached 0 = 32
                open 1 0 1 = 0; read 1 0 = 5; count 0 = 1
                """);
        Runs.run("12: numbers", """
                close 1 0 = CLOSED; close 1 5 = CLOSED; close 1 6 = REFUSED; close 1 -1 = REFUSED; close 2 0 = REFUSED
                close 0 0 = REFUSED; close 7 0 = REFUSED; close 1 2147483647 = REFUSED
                """);
    }

    private static void unlink() {
        Runs.run("13: ABSENT before DENIED before BUSY", """
                unlink 1 0 = ABSENT; policy 0 1 = 0; unlink 1 0 = ABSENT; put 0 4 1 = 0; open 1 0 1 = 0
                unlink 1 0 = DENIED; policy 0 0 = 0; unlink 1 0 = ABSENT; policy 0 2 = 0; unlink 1 0 = BUSY
                unlink 0 0 = REFUSED; unlink 2 0 = REFUSED; unlink 1 8 = REFUSED; unlink 1 -1 = REFUSED
                count 0 = 0; host 0 0 = 1
                """);
        Runs.run("13: REMOVE; its blocks leave the cache unwritten", """
                put 0 20 1 = 0; put 1 20 2 = 0; open 1 0 3 = 0; open 1 1 1 = 1
                write 1 0 9 = 1; read 1 1 = 2; seek 1 0 9 = 9; read 1 0 = 64; close 1 0 = 0
                unlink 1 0 = 0; log 0 = 4; count 0 = 4; cached 0 = 1; cached 1 = REFUSED; count 3 = 0
                host 0 0 = ABSENT; unlink 1 0 = ABSENT; open 1 0 1 = ABSENT; put 0 1 5 = 0; host 0 0 = 5
                """);
        Runs.run("13: REMOVE may fail", """
                open 1 0 10 = 0; write 1 0 9 = 1; close 1 0 = 0; failing 1 = 0; unlink 1 0 = BROKEN; log 0 = 260
                cached 0 = 32; host 0 0 = END; open 1 0 1 = 0; read 1 0 = 9; close 1 0 = 0; unlink 1 0 = 0
                """);
        Runs.run("13: nothing of it comes back", """
                put 0 20 1 = 0; unlink 1 0 = 0; open 1 0 11 = 0; read 1 0 = END; write 1 0 7 = 1; read 1 0 = END
                sync 1 0 = 1; host 0 0 = 7; host 0 1 = END
                """);
    }
}
