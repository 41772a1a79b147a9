/** Promise 18: host. */
public final class Promise18Test {
    public static void main(String[] args) {
        Runs.run("18: a file 0 .. 7, else REFUSED, whatever i is", """
                put 0 1 5 = 0; put 7 1 6 = 0; host 0 0 = 5; host 7 0 = 6; host -1 0 = REFUSED; host 8 0 = REFUSED
                host 8 -1 = REFUSED; host -1 99 = REFUSED; host 2147483647 0 = REFUSED; host -2147483648 0 = REFUSED
                """);
        Runs.run("18: the first and the last cell, then END", """
                put 7 2 5 = 0; host 7 0 = 5; host 7 1 = 12; host 7 2 = END; host 7 31 = END; host 7 32 = END; host 7 33 = END
                host 7 2147483647 = END
                """);
        Runs.run("18: END at 32 of a full file", "put 7 32 5 = 0; host 7 31 = 222; host 7 32 = END");
        Runs.run("18: END at 0 of an empty file", "put 7 0 5 = 0; host 7 0 = END; open 1 6 8 = 0; host 6 0 = END");
        Runs.run("18: i below 0: END", "put 7 2 5 = 0; host 7 -1 = END; host 7 -2147483648 = END");
        Runs.run("18: the next file's cells are not its own", "put 0 32 1 = 0; put 1 32 2 = 0; host 0 32 = END; host 1 -1 = END");
        Runs.run("18: not there: ABSENT", """
                host 6 0 = ABSENT; host 6 99 = ABSENT; put 6 1 1 = 0; unlink 1 6 = 0; host 6 0 = ABSENT
                """);
        Runs.run("18: not there and i below 0: ABSENT, as there is no length", "host 6 -1 = ABSENT");
        Runs.run("18: whatever the policy is", "put 7 2 5 = 0; policy 7 0 = 0; host 7 1 = 12; host 7 2 = END");
        Runs.run("18: the host's cells and length, not the cache's", """
                put 0 2 5 = 0; open 1 0 3 = 0; write 1 0 1 = 1; seek 1 0 2 = 2; write 1 0 2 = 1; host 0 0 = 5; host 0 2 = END
                sync 1 0 = 1; host 0 0 = 1; host 0 2 = 2; host 0 3 = END
                """);
        Runs.run("18: no operation", "put 0 2 5 = 0; failing 1 = 0; host 0 0 = 5; count 0 = 0; count 4 = 1");
        Runs.finish();
    }
}
