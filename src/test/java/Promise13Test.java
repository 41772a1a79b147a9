/** Promise 13: unlink. */
public final class Promise13Test {
    public static void main(String[] args) {
        Runs.run("13: no alive process with that number, or no file 0 .. 7: REFUSED", """
                put 0 4 1 = 0; put 7 4 1 = 0; unlink 0 0 = REFUSED; unlink 2 0 = REFUSED; unlink 7 0 = REFUSED
                unlink -1 0 = REFUSED; unlink 1 8 = REFUSED; unlink 1 -1 = REFUSED; unlink 1 2147483647 = REFUSED
                unlink 1 -2147483648 = REFUSED; fork 1 = 2; exit 2 0 = 0; unlink 2 0 = REFUSED; count 0 = 0; host 0 0 = 1
                unlink 1 0 = 0; unlink 1 7 = 0; host 0 0 = ABSENT; host 7 0 = ABSENT
                """);
        Runs.run("13: not there: ABSENT", Runs.each(0, 7, "unlink 1 # = ABSENT") + "count 0 = 0");
        Runs.run("13: hidden: ABSENT, there or not", """
                put 0 4 1 = 0; policy 0 0 = 0; unlink 1 0 = ABSENT; policy 1 0 = 0; unlink 1 1 = ABSENT; host 0 0 = 1; count 0 = 0
                """);
        Runs.run("13: the policy is 1: DENIED", "put 0 4 1 = 0; policy 0 1 = 0; unlink 1 0 = DENIED; host 0 0 = 1; count 0 = 0");
        Runs.run("13: ABSENT before DENIED and BUSY", """
                policy 0 1 = 0; unlink 1 0 = ABSENT; policy 1 2 = 0; put 1 4 1 = 0; open 1 1 1 = 0; policy 1 0 = 0
                unlink 1 1 = ABSENT
                """);
        Runs.run("13: DENIED before BUSY", """
                put 0 4 1 = 0; open 1 0 1 = 0; policy 0 1 = 0; unlink 1 0 = DENIED; policy 0 2 = 0; unlink 1 0 = BUSY
                """);
        Runs.run("13: an opening is of it: BUSY, whosever and whatever for", """
                put 0 4 1 = 0; fork 1 = 2; open 2 0 0 = 0; failing 1 = 0; unlink 1 0 = BUSY; unlink 2 0 = BUSY; count 0 = 0
                count 4 = 1; failing 0 = 0; host 0 0 = 1; exit 2 0 = 0; unlink 1 0 = 0
                """);
        Runs.run("13: an opening of another file or of a pipe is not of it", """
                put 0 4 1 = 0; put 1 4 1 = 0; open 1 1 1 = 0; pipe 1 = 17; unlink 1 0 = 0; unlink 1 1 = BUSY
                """);
        Runs.run("13: REMOVE; its blocks leave the cache unwritten, those of others stay in their order", """
                put 0 20 1 = 0; put 5 20 2 = 0; open 1 0 1 = 0; open 1 5 3 = 1; read 1 0 = 1; write 1 1 9 = 1; seek 1 0 8 = 8
                read 1 0 = 57; seek 1 1 9 = 9; write 1 1 8 = 1; seek 1 0 16 = 16; read 1 0 = 113; count 0 = 5; close 1 1 = 0
                unlink 1 5 = 0; log 0 = 44; count 0 = 6; count 3 = 0
                cached 0 = 16; cached 1 = 8; cached 2 = 0; cached 3 = REFUSED; seek 1 0 0 = 0; read 1 0 = 1; count 0 = 6
                """);
        Runs.run("13: it is not there", """
                put 0 20 1 = 0; unlink 1 0 = 0; host 0 0 = ABSENT; unlink 1 0 = ABSENT; open 1 0 1 = ABSENT; put 0 1 5 = 0
                host 0 0 = 5; host 0 1 = END
                """);
        Runs.run("13: nothing of it comes back when it is made again", """
                put 0 20 1 = 0; unlink 1 0 = 0; open 1 0 11 = 0; read 1 0 = END; write 1 0 7 = 1; read 1 0 = END
                sync 1 0 = 1; host 0 0 = 7; host 0 1 = END
                """);
        Runs.run("13: an empty file", "put 0 0 0 = 0; unlink 1 0 = 0; log 0 = 4; host 0 0 = ABSENT");
        Runs.run("13: a failed REMOVE: it is there, with its blocks", """
                open 1 0 10 = 0; write 1 0 9 = 1; close 1 0 = 0; failing 1 = 0; unlink 1 0 = BROKEN; log 0 = 260
                cached 0 = 32; host 0 0 = END; open 1 0 1 = 0; read 1 0 = 9; close 1 0 = 0; unlink 1 0 = 0; log 0 = 4
                """);
        Runs.finish();
    }
}
