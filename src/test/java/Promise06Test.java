/** Promise 6: pipe. */
public final class Promise06Test {
    public static void main(String[] args) {
        Runs.run("6: no alive process with that number: REFUSED", """
                pipe 0 = REFUSED; pipe 2 = REFUSED; pipe 7 = REFUSED; pipe -1 = REFUSED; pipe 2147483647 = REFUSED
                pipe -2147483648 = REFUSED; fork 1 = 2; exit 2 0 = 0; pipe 2 = REFUSED; count 1 = 0
                """);
        Runs.run("6: two free descriptors are enough", """
                pipe 1 = 8; pipe 1 = 26; pipe 1 = 44; count 1 = 6; close 1 0 = 0; close 1 5 = 0; pipe 1 = 40
                """);
        Runs.run("6: one or none is not: FULL", """
                pipe 1 = 8; pipe 1 = 26; dup 1 0 = 4; pipe 1 = FULL; count 1 = 4; read 1 5 = CLOSED; dup 1 0 = 5
                pipe 1 = FULL; count 1 = 4; close 1 0 = 0; pipe 1 = FULL
                """);
        Runs.run("6: the least free descriptor reads, the next free one writes", """
                put 0 1 7 = 0; open 1 0 1 = 0; open 1 0 1 = 1; open 1 0 1 = 2; open 1 0 1 = 3; close 1 0 = 0; close 1 2 = 0
                pipe 1 = 16; write 1 0 1 = CLOSED; read 1 2 = CLOSED; write 1 2 9 = 1; read 1 0 = 9; read 1 1 = 7; read 1 3 = 7
                """);
        Runs.run("6: fourteen openings: a pipe still has room", States.FOURTEEN_OPENINGS + "pipe 4 = 8; count 1 = 16");
        Runs.run("6: fifteen: FULL, nothing is made", States.FOURTEEN_OPENINGS + """
                open 3 0 1 = 2; count 1 = 15; pipe 4 = FULL; pipe 3 = FULL; count 1 = 15; read 4 0 = CLOSED; read 4 1 = CLOSED
                open 4 0 1 = 0; count 1 = 16
                """);
        Runs.run("6: sixteen: FULL, until two are gone", States.FOURTEEN_OPENINGS + """
                pipe 3 = 26; count 1 = 16; pipe 4 = FULL; close 3 0 = 0; pipe 4 = FULL; close 1 5 = 0; pipe 4 = 8; count 1 = 16
                """);
        anyTwoOfSixteen();
        Runs.run("6: a new pipe is empty", """
                pipe 1 = 8; write 1 1 5 = 1; close 1 0 = 0; close 1 1 = 0; pipe 1 = 8; read 1 0 = AGAIN
                """);
        Runs.run("6: each pipe has its own cells, reader and writer", """
                pipe 1 = 8; pipe 1 = 26; write 1 1 5 = 1; read 1 2 = AGAIN; write 1 3 6 = 1; read 1 0 = 5; read 1 2 = 6
                close 1 1 = 0; read 1 0 = END; read 1 2 = AGAIN; close 1 2 = 0; write 1 3 1 = END
                """);
        Runs.run("6: a pipe's end where a file was open before", """
                put 0 9 1 = 0; open 1 0 3 = 0; open 1 0 7 = 1; close 1 0 = 0; close 1 1 = 0; pipe 1 = 8; write 1 0 1 = CLOSED
                read 1 1 = CLOSED; seek 1 0 0 = CLOSED; put 0 1 1 = 0; unlink 1 0 = 0; write 1 1 3 = 1; read 1 0 = 3
                """);
        Runs.run("6: no operation", "failing 1 = 0; pipe 1 = 8; count 0 = 0; count 4 = 1");
        Runs.finish();
    }

    /** Whichever two of sixteen openings are gone, a pipe takes their place. */
    private static void anyTwoOfSixteen() {
        String[] openings = {
            "1 0", "1 1", "1 2", "1 3", "1 4", "1 5", "2 0", "2 1", "2 2", "2 3", "2 4", "2 5", "3 0", "3 1", "3 2", "3 3"
        };
        for (int i = 0; i < openings.length; i++) {
            for (int j = 0; j < i; j++) {
                Runs.run("6: sixteen, but " + openings[i] + " and " + openings[j] + " are closed", States.FOURTEEN_OPENINGS
                        + "pipe 3 = 26; close " + openings[i] + " = 0; pipe 4 = FULL; close " + openings[j] + " = 0\n"
                        + "pipe 4 = 8; count 1 = 16; pipe 4 = FULL; write 4 1 5 = 1; read 4 0 = 5; read 4 0 = AGAIN");
            }
        }
    }
}
