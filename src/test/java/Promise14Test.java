/** Promise 14: fork. */
public final class Promise14Test {
    public static void main(String[] args) {
        Runs.run("14: no alive process with that number: REFUSED", """
                fork 0 = REFUSED; fork 2 = REFUSED; fork 7 = REFUSED; fork -1 = REFUSED; fork 2147483647 = REFUSED
                fork -2147483648 = REFUSED; count 2 = 1; fork 1 = 2; exit 2 0 = 0; fork 2 = REFUSED; count 2 = 2
                """);
        Runs.run("14: REFUSED before FULL", States.SIX_PROCESSES + "exit 4 0 = 0; fork 4 = REFUSED; fork 7 = REFUSED; fork 5 = FULL");
        Runs.run("14: the least number that is not there", """
                fork 1 = 2; fork 2 = 3; fork 1 = 4; exit 3 5 = 0; fork 1 = 5; wait 2 = 43; fork 5 = 3; exit 2 0 = 0; wait 1 = 2
                exit 4 0 = 0; wait 1 = 4; fork 3 = 2; fork 3 = 4; fork 3 = 6
                """);
        Runs.run("14: the sixth process is the last: FULL", """
                fork 1 = 2; fork 2 = 3; fork 3 = 4; fork 4 = 5; count 2 = 5; fork 5 = 6; count 2 = 6
                fork 6 = FULL; fork 1 = FULL; fork 3 = FULL; count 2 = 6
                """);
        Runs.run("14: an ended one is there until it is waited for", States.SIX_PROCESSES + """
                exit 3 5 = 0; fork 1 = FULL; wait 1 = 43; fork 6 = 3; fork 3 = FULL
                """);
        Runs.run("14: this one is its parent", """
                fork 1 = 2; fork 2 = 3; wait 3 = BUSY; wait 2 = AGAIN; exit 3 1 = 0; wait 1 = AGAIN; wait 2 = 11; wait 2 = BUSY
                """);
        Runs.run("14: its descriptors are of the same openings, the free ones are free", """
                put 0 9 1 = 0; open 1 0 1 = 0; dup 1 0 = 1; open 1 0 1 = 2; close 1 1 = 0; fork 1 = 2; count 1 = 2
                read 2 0 = 1; read 1 0 = 8; read 2 1 = CLOSED; read 2 2 = 1; read 1 2 = 8
                read 2 3 = CLOSED; read 2 4 = CLOSED; read 2 5 = CLOSED
                """);
        Runs.run("14: all six descriptors", States.SIX_DESCRIPTORS + "fork 1 = 2\n" + Runs.each(0, 5, "close 1 # = 0")
                + "count 1 = 1\n" + Runs.each(0, 4, "close 2 # = 0") + "count 1 = 1; read 2 5 = 1; close 2 5 = 0; count 1 = 0");
        Runs.run("14: what one opens, closes or dups then is its own", """
                put 0 9 1 = 0; open 1 0 1 = 0; fork 1 = 2; close 1 0 = 0; read 1 0 = CLOSED; read 2 0 = 1; open 1 0 1 = 0
                read 1 0 = 1; open 2 0 1 = 1; read 1 1 = CLOSED; dup 2 0 = 2; read 1 2 = CLOSED; count 1 = 3
                """);
        Runs.run("14: it needs no new opening", States.FOURTEEN_OPENINGS + """
                pipe 4 = 8; count 1 = 16; fork 4 = 5; count 1 = 16; write 5 1 7 = 1; read 4 0 = 7
                """);
        Runs.run("14: no descriptor of a process that had the number", """
                pipe 1 = 8; fork 1 = 2; close 1 0 = 0; close 1 1 = 0; exit 2 0 = 0; wait 1 = 2; fork 1 = 2
                read 2 0 = CLOSED; write 2 1 1 = CLOSED; count 1 = 0
                """);
        Runs.finish();
    }
}
