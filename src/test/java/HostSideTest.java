/** Promises 1 to 4 and 17 to 21: a new object, put, policy, failing, crash and the views. */
public final class HostSideTest {
    public static void main(String[] args) {
        newObject();
        put();
        policy();
        failing();
        crash();
        host();
        log();
        cached();
        count();
        Runs.finish();
    }

    private static void newObject() {
        Runs.run("1: nothing is there but process 1", """
                count 0 = 0; count 1 = 0; count 2 = 1; count 3 = 0; count 4 = 0
                log 0 = REFUSED; cached 0 = REFUSED
                host 0 0 = ABSENT; host 3 0 = ABSENT; host 7 0 = ABSENT
                read 1 0 = CLOSED; read 1 5 = CLOSED
                fork 2 = REFUSED; wait 1 = BUSY
                """);
        Runs.run("1: every file has policy 2 at first", """
                open 1 0 31 = 0; open 1 7 31 = 1; close 1 0 = 0; close 1 1 = 0; unlink 1 0 = 0; unlink 1 7 = 0
                """);
    }

    private static void put() {
        Runs.run("2: cells", """
                put 3 32 250 = 0; host 3 0 = 250; host 3 1 = 1; host 3 31 = 211; host 3 32 = END
                put 7 1 -1 = 0; host 7 0 = 255; host 7 1 = END
                put 0 3 2147483647 = 0; host 0 0 = 255; host 0 1 = 6; host 0 2 = 13
                put 1 2 -2147483648 = 0; host 1 0 = 0; host 1 1 = 7
                put 2 0 9 = 0; host 2 0 = END; count 0 = 0; log 0 = REFUSED
                """);
        Runs.run("2: wrong numbers", """
                put -1 0 0 = REFUSED; put 8 0 0 = REFUSED; put 0 -1 0 = REFUSED; put 0 33 0 = REFUSED
                put 2147483647 0 0 = REFUSED; put 0 -2147483648 0 = REFUSED; host 0 0 = ABSENT
                """);
        Runs.run("2: in place of any before, whose cells do not come back", """
                put 4 32 1 = 0; put 4 2 100 = 0; host 4 0 = 100; host 4 1 = 107; host 4 2 = END
                open 1 4 3 = 0; seek 1 0 3 = REFUSED; seek 1 0 2 = 2; write 1 0 9 = 1; read 1 0 = END
                sync 1 0 = 1; host 4 1 = 107; host 4 2 = 9; host 4 3 = END
                """);
        Runs.run("2: BUSY while open, and while a block is cached", """
                put 4 8 1 = 0; open 1 4 1 = 0; put 4 1 1 = BUSY; put 4 33 1 = REFUSED; close 1 0 = 0; put 4 4 1 = 0
                open 1 4 1 = 0; read 1 0 = 1; close 1 0 = 0; put 4 1 1 = BUSY; host 4 3 = 22
                put 5 1 1 = 0; crash = 0; put 4 1 1 = 0; host 4 1 = END
                """);
        Runs.run("2: a pipe is no opening of a file", "pipe 1 = 8; put 0 1 1 = 0; fork 1 = 2; put 0 2 1 = 0");
    }

    private static void policy() {
        Runs.run("3: numbers", """
                policy 0 0 = 0; policy 7 2 = 0; policy 0 3 = REFUSED; policy 0 -1 = REFUSED
                policy 8 1 = REFUSED; policy -1 1 = REFUSED
                put 0 1 1 = 0; open 1 0 1 = ABSENT; policy 0 1 = 0; open 1 0 1 = 0
                """);
        Runs.run("3: for opens to come, not for those there", """
                put 0 4 1 = 0; open 1 0 3 = 0; policy 0 1 = 0; write 1 0 9 = 1; policy 0 0 = 0
                read 1 0 = 8; write 1 0 7 = 1; sync 1 0 = 1; seek 1 0 0 = 0; read 1 0 = 9
                dup 1 0 = 1; host 0 0 = 9; host 0 2 = 7; open 1 0 1 = ABSENT
                """);
        Runs.run("3: it is of the number: put, unlink and crash leave it", """
                policy 1 1 = 0; put 1 3 0 = 0; open 1 1 2 = DENIED; crash = 0; open 1 1 2 = DENIED
                policy 1 2 = 0; unlink 1 1 = 0; policy 1 0 = 0; open 1 1 8 = ABSENT; count 0 = 1
                """);
    }

    private static void failing() {
        Runs.run("4: numbers", """
                failing 9 = 0; count 4 = 9; failing 10 = REFUSED; failing -1 = REFUSED; count 4 = 9
                failing 2 = 0; count 4 = 2; failing 0 = 0; count 4 = 0
                """);
        Runs.run("4: the next operations fail, and are noted", """
                failing 2 = 0; open 1 0 8 = BROKEN; count 4 = 1; log 0 = 258; host 0 0 = ABSENT; count 1 = 0
                open 1 0 8 = BROKEN; count 4 = 0; open 1 0 8 = 0; log 0 = 2; log 1 = 258; count 0 = 3
                """);
        Runs.run("4: a call without an operation leaves the number", """
                put 0 8 3 = 0; open 1 0 3 = 0; read 1 0 = 3; failing 3 = 0; read 1 0 = 10; write 1 0 1 = 1
                count 4 = 3; crash = 0; count 4 = 3
                """);
    }

    private static void crash() {
        Runs.run("17: what was not written is lost", """
                put 0 4 1 = 0; open 1 0 7 = 0; write 1 0 50 = 1; write 1 0 51 = 1; count 3 = 1
                pipe 1 = 17; fork 1 = 2; fork 2 = 3; exit 3 1 = 0; count 2 = 3; count 1 = 3
                crash = 0; count 0 = 1; count 1 = 0; count 2 = 1; count 3 = 0; cached 0 = REFUSED
                read 1 0 = CLOSED; read 1 1 = CLOSED; read 2 0 = REFUSED; wait 1 = BUSY; fork 1 = 2
                open 1 0 1 = 0; seek 1 0 5 = REFUSED; seek 1 0 4 = 4; read 1 0 = END; host 0 4 = END
                """);
        Runs.run("17: LENGTH is the host's, also after a part was written", """
                open 1 2 11 = 0
                write 1 0 1 = 1; sync 1 0 = 1; write 1 0 2 = 1; crash = 0; open 1 2 7 = 0; write 1 0 3 = 1
                seek 1 0 0 = 0; read 1 0 = 1; read 1 0 = 3; read 1 0 = END
                """);
        Runs.run("17: policies and the log stay", """
                policy 0 1 = 0; open 1 1 8 = 0; crash = 0; log 0 = 10; open 1 0 8 = DENIED; open 1 1 1 = 0
                """);
    }

    private static void host() {
        Runs.run("18: numbers", """
                put 7 2 5 = 0; host 7 0 = 5; host 7 1 = 12; host 7 2 = END; host 7 31 = END; host 7 32 = END
                host 7 2147483647 = END; host 7 -1 = END; host 7 -2147483648 = END
                host 6 0 = ABSENT; host 6 99 = ABSENT; host -1 0 = REFUSED; host 8 0 = REFUSED; host 8 -1 = REFUSED
                policy 7 0 = 0; host 7 1 = 12; count 0 = 0
                """);
        Runs.run("18: the host's cells, not the cache's", """
                put 0 2 5 = 0; open 1 0 7 = 0; write 1 0 1 = 1; host 0 2 = END; sync 1 0 = 1; host 0 2 = 1
                """);
    }

    private static void log() {
        Runs.run("19: each operation, newest first", """
                open 1 3 11 = 0; log 0 = 26; write 1 0 1 = 1; sync 1 0 = 1; log 0 = 25
                open 1 3 17 = 1; log 0 = 27; close 1 0 = 0; close 1 1 = 0; unlink 1 3 = 0; log 0 = 28
                put 3 32 0 = 0; open 1 3 1 = 0; seek 1 0 31 = 31; read 1 0 = 217; log 0 = 216
                log 1 = 28; log 2 = 27; log 3 = 25; log 4 = 26; log 5 = REFUSED
                log -1 = REFUSED; log 2147483647 = REFUSED; log -2147483648 = REFUSED; count 0 = 5
                failing 1 = 0; seek 1 0 8 = 8; read 1 0 = BROKEN; log 0 = 344
                """);
        StringBuilder many = new StringBuilder();
        for (int i = 0; i < 20; i++) {
            many.append("open 1 ").append(i % 8).append(" 24 = 0; close 1 0 = 0\n");
        }
        Runs.run("19: sixteen are kept, all are counted", many + """
                count 0 = 20; log 0 = 27; log 3 = 3; log 4 = 59; log 11 = 3; log 12 = 58; log 15 = 34; log 16 = REFUSED
                """);
    }

    private static void cached() {
        Runs.run("20: the last used first", """
                put 7 32 0 = 0; open 1 7 3 = 0; cached 0 = REFUSED
                read 1 0 = 0; seek 1 0 24 = 24; write 1 0 1 = 1; cached 0 = 63; cached 1 = 7; cached 2 = REFUSED
                seek 1 0 0 = 0; read 1 0 = 0; cached 0 = 7; cached 1 = 63; cached 5 = REFUSED
                cached -1 = REFUSED; cached 2147483647 = REFUSED; cached -2147483648 = REFUSED
                """);
    }

    private static void count() {
        Runs.run("21: each number", """
                failing 1 = 0; open 1 0 8 = BROKEN; count 0 = 1; failing 2 = 0; count 4 = 2; failing 0 = 0
                open 1 0 11 = 0; pipe 1 = 17; dup 1 0 = 3; count 1 = 3; fork 1 = 2; count 1 = 3; count 2 = 2
                exit 2 0 = 0; count 2 = 2; wait 1 = 2; count 2 = 1; write 1 0 1 = 1; count 3 = 1; count 0 = 2
                seek 1 0 0 = 0; read 1 0 = 1; count 3 = 1; sync 1 0 = 1; count 3 = 0; count 0 = 3
                count 5 = REFUSED; count -1 = REFUSED; count 2147483647 = REFUSED; count -2147483648 = REFUSED
                """);
    }
}
