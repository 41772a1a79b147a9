/** Promise 21: count. */
public final class Promise21Test {
    public static void main(String[] args) {
        Runs.run("21: 0 .. 4, else REFUSED", Runs.each(0, 1, "count # = 0") + "count 2 = 1; count 3 = 0; count 4 = 0\n" + """
                count 5 = REFUSED; count -1 = REFUSED; count 2147483647 = REFUSED; count -2147483648 = REFUSED
                """);
        Runs.run("21: operations in the log so far, failed ones too", """
                failing 1 = 0; open 1 0 8 = BROKEN; count 0 = 1; open 1 0 11 = 0; count 0 = 2; write 1 0 1 = 1; count 0 = 2
                sync 1 0 = 1; count 0 = 3; open 1 0 16 = 1; count 0 = 4; put 1 9 9 = 0; count 0 = 4; unlink 1 1 = 0; count 0 = 5
                """);
        Runs.run("21: operations so far, not only those that log tells", "put 0 0 0 = 0\n"
                + Runs.each(1, 40, "open 1 0 16 = 0; close 1 0 = 0; count 0 = #"));
        Runs.run("21: openings, from none to sixteen", "count 1 = 0\n" + States.FOURTEEN_OPENINGS + """
                open 3 0 1 = 2; count 1 = 15; open 3 0 1 = 3; count 1 = 16; open 3 0 1 = FULL; count 1 = 16; crash = 0; count 1 = 0
                """);
        Runs.run("21: an opening counts once, a pipe's ends are two", """
                pipe 1 = 8; count 1 = 2; dup 1 0 = 2; count 1 = 2; fork 1 = 2; count 1 = 2; close 1 0 = 0; close 1 2 = 0
                count 1 = 2; exit 2 0 = 0; count 1 = 1; close 1 1 = 0; count 1 = 0
                """);
        Runs.run("21: processes that are there, from one to six", "count 2 = 1\n" + Runs.each(2, 6, "fork 1 = #; count 2 = #")
                + "fork 1 = FULL; count 2 = 6; exit 6 0 = 0; count 2 = 6; wait 1 = 6; count 2 = 5; crash = 0; count 2 = 1");
        Runs.run("21: dirty blocks, from none to five", """
                put 0 32 0 = 0; put 1 8 0 = 0; open 1 0 3 = 0; open 1 1 3 = 1; count 3 = 0; write 1 1 1 = 1; count 3 = 1
                write 1 0 1 = 1; count 3 = 2; write 1 0 1 = 1; count 3 = 2; seek 1 0 8 = 8; write 1 0 1 = 1; count 3 = 3
                seek 1 0 16 = 16; write 1 0 1 = 1; count 3 = 4; seek 1 0 24 = 24; write 1 0 1 = 1; count 3 = 5
                put 2 8 0 = 0; open 1 2 3 = 2; write 1 2 1 = 1; count 3 = 5; sync 1 0 = 4; count 3 = 1; sync 1 2 = 1; count 3 = 0
                """);
        Runs.run("21: a block that is read is not dirty", "put 0 8 0 = 0; open 1 0 3 = 0; read 1 0 = 0; count 3 = 0");
        Runs.run("21: operations still to fail", """
                count 4 = 0; failing 9 = 0; count 4 = 9; open 1 0 8 = BROKEN; count 4 = 8; failing 1 = 0; count 4 = 1
                open 1 0 8 = BROKEN; count 4 = 0; open 1 0 8 = 0; count 4 = 0
                """);
        Runs.finish();
    }
}
