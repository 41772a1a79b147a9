/** Promise 17: crash. */
public final class Promise17Test {
    public static void main(String[] args) {
        Runs.run("17: of a new object", "crash = 0; crash = 0; count 0 = 0; count 1 = 0; count 2 = 1; fork 1 = 2");
        Runs.run("17: all processes are gone, ended ones too", States.SIX_PROCESSES + """
                exit 3 1 = 0; exit 6 1 = 0; crash = 0; count 2 = 1; wait 1 = BUSY
                """ + Runs.each(2, 6, "fork # = REFUSED") + Runs.each(2, 6, "fork 1 = #"));
        Runs.run("17: a new 1, without descriptors and without a child", States.SIX_DESCRIPTORS + """
                fork 1 = 2; exit 2 0 = 0; crash = 0
                """ + Runs.each(0, 5, "read 1 # = CLOSED") + "wait 1 = BUSY; open 1 0 1 = 0; read 1 0 = 1");
        Runs.run("17: all openings are gone", States.FOURTEEN_OPENINGS + """
                pipe 4 = 8; count 1 = 16; crash = 0; count 1 = 0; put 0 1 7 = 0; pipe 1 = 8; read 1 0 = AGAIN; count 1 = 2
                unlink 1 0 = 0; fork 1 = 2; read 2 0 = AGAIN; read 2 2 = CLOSED
                """);
        Runs.run("17: sixteen openings can be made again", States.FOURTEEN_OPENINGS + "pipe 4 = 8; crash = 0\n"
                + States.FOURTEEN_OPENINGS + "pipe 4 = 8; count 1 = 16");
        Runs.run("17: the cache is gone, nothing being written", States.FIVE_BLOCKS + """
                failing 1 = 0; crash = 0; count 0 = 5; count 4 = 1; count 3 = 0; cached 0 = REFUSED; cached 4 = REFUSED
                host 0 0 = 0; failing 0 = 0; open 1 0 1 = 0; read 1 0 = 0; count 0 = 6; log 0 = 0; cached 0 = 0; cached 1 = REFUSED
                """);
        Runs.run("17: LENGTH is the host's", """
                put 0 4 1 = 0; open 1 0 7 = 0; write 1 0 50 = 1; seek 1 0 5 = 5; crash = 0
                open 1 0 1 = 0; seek 1 0 5 = REFUSED; seek 1 0 4 = 4; read 1 0 = END
                """);
        Runs.run("17: LENGTH is the host's, of a file that was made and never written", """
                open 1 0 11 = 0; write 1 0 50 = 1; crash = 0; open 1 0 3 = 0; seek 1 0 1 = REFUSED; read 1 0 = END
                write 1 0 51 = 1; count 0 = 1; seek 1 0 0 = 0; read 1 0 = 51
                """);
        Runs.run("17: LENGTH is the host's, 0 of a file that was made or emptied", """
                open 1 0 15 = 0; write 1 0 50 = 1; put 1 9 9 = 0; open 1 1 16 = 1; crash = 0; open 1 0 7 = 0; open 1 1 7 = 1
                seek 1 0 0 = 0; seek 1 0 1 = REFUSED; seek 1 1 0 = 0; seek 1 1 1 = REFUSED; write 1 0 5 = 1; write 1 1 6 = 1
                seek 1 0 0 = 0; read 1 0 = 5; read 1 0 = END; seek 1 1 0 = 0; read 1 1 = 6; read 1 1 = END
                """);
        Runs.run("17: LENGTH is the host's, also after a part was written", """
                open 1 7 11 = 0; write 1 0 1 = 1; sync 1 0 = 1; write 1 0 2 = 1; crash = 0; open 1 7 7 = 0; write 1 0 3 = 1
                seek 1 0 0 = 0; read 1 0 = 1; read 1 0 = 3; read 1 0 = END
                """);
        Runs.run("17: what was made, emptied and removed on the host stays so", """
                put 0 4 1 = 0; put 1 4 1 = 0; open 1 0 16 = 0; unlink 1 1 = 0; open 1 2 8 = 1; crash = 0
                host 0 0 = END; host 1 0 = ABSENT; host 2 0 = END; open 1 1 1 = ABSENT; open 1 2 1 = 0
                """);
        Runs.run("17: policies, the log and the number to fail stay", """
                policy 0 1 = 0; open 1 1 8 = 0; failing 3 = 0; crash = 0; count 0 = 1; log 0 = 10; log 1 = REFUSED; count 4 = 3
                open 1 0 8 = DENIED; open 1 2 8 = BROKEN; log 0 = 274; log 1 = 10
                """);
        Runs.finish();
    }
}
