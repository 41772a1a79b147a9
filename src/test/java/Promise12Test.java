/** Promise 12: close. */
public final class Promise12Test {
    public static void main(String[] args) {
        Runs.run("12: no alive process with that number, or no descriptor 0 .. 5: REFUSED", """
                close 0 0 = REFUSED; close 2 0 = REFUSED; close 7 0 = REFUSED; close -1 0 = REFUSED; close 1 6 = REFUSED
                close 1 -1 = REFUSED; close 1 2147483647 = REFUSED; close 1 -2147483648 = REFUSED
                fork 1 = 2; exit 2 0 = 0; close 2 0 = REFUSED
                """);
        Runs.run("12: a descriptor that is not in use: CLOSED", Runs.each(0, 5, "close 1 # = CLOSED"));
        Runs.run("12: the descriptor is free, a second time: CLOSED", """
                put 0 9 1 = 0; open 1 0 1 = 0; close 1 0 = 0; close 1 0 = CLOSED; read 1 0 = CLOSED; open 1 0 1 = 0
                """);
        Runs.run("12: each of the six", States.SIX_DESCRIPTORS + Runs.each(0, 5, "count 1 = 1; close 1 # = 0; dup 1 # = CLOSED")
                + "count 1 = 0");
        Runs.run("12: the others stay", """
                put 0 9 1 = 0; open 1 0 1 = 0; open 1 0 1 = 1; open 1 0 1 = 2; read 1 2 = 1; close 1 1 = 0; read 1 0 = 1
                read 1 2 = 8; count 1 = 2
                """);
        Runs.run("12: with the last descriptor the opening goes", """
                open 1 0 11 = 0; dup 1 0 = 1; close 1 0 = 0; count 1 = 1; unlink 1 0 = BUSY; close 1 1 = 0; count 1 = 0
                unlink 1 0 = 0
                """);
        Runs.run("12: the last one may be another process's", """
                put 0 9 1 = 0; open 1 0 1 = 0; fork 1 = 2; close 1 0 = 0; count 1 = 1; unlink 1 0 = BUSY; read 2 0 = 1
                close 2 0 = 0; count 1 = 0; unlink 1 0 = 0
                """);
        Runs.run("12: the file's blocks stay in the cache, nothing is written", """
                open 1 0 11 = 0; write 1 0 5 = 1; failing 1 = 0; close 1 0 = 0; count 4 = 1; count 3 = 1; host 0 0 = END
                cached 0 = 32; count 0 = 1; open 1 0 1 = 0; read 1 0 = 5
                """);
        Runs.run("12: a pipe goes with its last end, with its cells", """
                pipe 1 = 8; write 1 1 5 = 1; close 1 1 = 0; count 1 = 1; close 1 0 = 0; count 1 = 0; pipe 1 = 8; read 1 0 = AGAIN
                """);
        Runs.finish();
    }
}
