/** Promise 11: dup. */
public final class Promise11Test {
    public static void main(String[] args) {
        Runs.run("11: no alive process with that number, or no descriptor 0 .. 5: REFUSED", """
                dup 0 0 = REFUSED; dup 2 0 = REFUSED; dup 7 0 = REFUSED; dup -1 0 = REFUSED; dup 1 6 = REFUSED
                dup 1 -1 = REFUSED; dup 1 2147483647 = REFUSED; dup 1 -2147483648 = REFUSED
                fork 1 = 2; exit 2 0 = 0; dup 2 0 = REFUSED
                """);
        Runs.run("11: a descriptor that is not in use: CLOSED", Runs.each(0, 5, "dup 1 # = CLOSED") + "count 1 = 0");
        Runs.run("11: the least free descriptor", """
                pipe 1 = 8; dup 1 1 = 2; dup 1 0 = 3; close 1 1 = 0; dup 1 3 = 1; close 1 0 = 0; dup 1 2 = 0; dup 1 1 = 4
                """);
        Runs.run("11: the last free one, then none: FULL", """
                pipe 1 = 8; dup 1 0 = 2; dup 1 0 = 3; dup 1 0 = 4; dup 1 0 = 5; dup 1 0 = FULL; dup 1 5 = FULL; count 1 = 2
                close 1 3 = 0; dup 1 3 = CLOSED; dup 1 1 = 3; dup 1 1 = FULL
                """);
        Runs.run("11: the same opening: one POSITION", """
                put 0 9 1 = 0; open 1 0 3 = 0; dup 1 0 = 1; count 1 = 1; read 1 0 = 1; read 1 1 = 8; seek 1 1 5 = 5
                read 1 0 = 36; write 1 1 9 = 1; seek 1 0 6 = 6; read 1 1 = 9
                """);
        Runs.run("11: it is there as long as one of them is", """
                put 0 9 1 = 0; open 1 0 1 = 0; dup 1 0 = 1; dup 1 1 = 2; close 1 0 = 0; close 1 1 = 0; count 1 = 1; read 1 2 = 1
                put 0 1 1 = BUSY; close 1 2 = 0; count 1 = 0
                """);
        Runs.run("11: of an end of a pipe", """
                pipe 1 = 8; dup 1 1 = 2; close 1 1 = 0; write 1 2 5 = 1; read 1 2 = CLOSED; dup 1 0 = 1; close 1 0 = 0
                read 1 1 = 5; read 1 1 = AGAIN; close 1 2 = 0; read 1 1 = END
                """);
        Runs.run("11: it needs no new opening", States.FOURTEEN_OPENINGS + "pipe 4 = 8; count 1 = 16; dup 4 0 = 2; count 1 = 16");
        Runs.run("11: of this process alone", "pipe 1 = 8; fork 1 = 2; dup 2 0 = 2; read 1 2 = CLOSED; dup 1 0 = 2");
        Runs.finish();
    }
}
