/** Promise 10: sync. */
public final class Promise10Test {
    public static void main(String[] args) {
        Runs.run("10: no alive process with that number, or no descriptor 0 .. 5: REFUSED", """
                sync 0 0 = REFUSED; sync 2 0 = REFUSED; sync 7 0 = REFUSED; sync -1 0 = REFUSED; sync 1 6 = REFUSED
                sync 1 -1 = REFUSED; sync 1 2147483647 = REFUSED; sync 1 -2147483648 = REFUSED
                fork 1 = 2; exit 2 0 = 0; sync 2 0 = REFUSED
                """);
        Runs.run("10: a descriptor that is not in use: CLOSED", Runs.each(0, 5, "sync 1 # = CLOSED"));
        Runs.run("10: not of a file: CLOSED", "pipe 1 = 8; write 1 1 5 = 1; sync 1 0 = CLOSED; sync 1 1 = CLOSED; read 1 0 = 5");
        Runs.run("10: no dirty block: 0, without an operation", """
                put 0 9 1 = 0; open 1 0 1 = 0; sync 1 0 = 0; read 1 0 = 1; failing 1 = 0; sync 1 0 = 0; count 0 = 1; count 4 = 1
                """);
        Runs.run("10: by number, not by use; the order of use stays", """
                put 0 32 0 = 0; put 1 8 0 = 0; open 1 0 3 = 0; open 1 1 3 = 1; write 1 1 1 = 1
                seek 1 0 24 = 24; write 1 0 1 = 1; seek 1 0 8 = 8; write 1 0 2 = 1; seek 1 0 16 = 16; read 1 0 = 112
                seek 1 0 0 = 0; write 1 0 3 = 1; count 3 = 4; count 0 = 5; sync 1 0 = 3; count 0 = 8
                log 2 = 1; log 1 = 65; log 0 = 193; cached 0 = 0; cached 1 = 16; cached 2 = 8; cached 3 = 24; cached 4 = 33
                host 0 0 = 3; host 0 8 = 2; host 0 24 = 1
                """);
        Runs.run("10: of the file of the opening alone", """
                open 1 0 11 = 0; open 1 1 11 = 1; write 1 0 5 = 1; write 1 1 6 = 1; sync 1 1 = 1; log 0 = 9; host 1 0 = 6
                host 0 0 = END; count 3 = 1; cached 1 = 32; cached 0 = 1
                """);
        Runs.run("10: all four blocks", "open 1 7 15 = 0\n" + Runs.each(1, 32, "write 1 0 # = 1") + """
                count 3 = 4; sync 1 0 = 4; log 3 = 57; log 2 = 121; log 1 = 185; log 0 = 249; count 3 = 0; host 7 31 = 32
                """);
        Runs.run("10: it is not dirty then, until it is written again", """
                open 1 0 11 = 0; write 1 0 5 = 1; sync 1 0 = 1; cached 0 = 0; sync 1 0 = 0; count 0 = 2; write 1 0 6 = 1
                cached 0 = 32; sync 1 0 = 1; count 0 = 3
                """);
        Runs.run("10: whatever the opening is for, whoever wrote", """
                open 1 0 10 = 0; write 1 0 5 = 1; close 1 0 = 0; open 1 0 0 = 0; sync 1 0 = 1; host 0 0 = 5; fork 1 = 2
                open 2 0 2 = 1; write 2 1 6 = 1; exit 2 0 = 0; sync 1 0 = 1; host 0 0 = 6; policy 0 1 = 0; sync 1 0 = 0
                """);
        Runs.run("10: a failed WRITE ends it: the block and those behind it stay dirty", """
                put 0 32 0 = 0; open 1 0 3 = 0; write 1 0 9 = 1; seek 1 0 8 = 8; write 1 0 8 = 1; failing 1 = 0; sync 1 0 = BROKEN
                log 0 = 257; count 0 = 3; count 4 = 0; host 0 0 = 0; host 0 8 = 56; count 3 = 2; cached 0 = 40; cached 1 = 32
                sync 1 0 = 2; host 0 0 = 9; host 0 8 = 8; count 3 = 0
                """);
        Runs.run("10: a failed WRITE leaves the host's length", """
                open 1 0 11 = 0; write 1 0 9 = 1; failing 1 = 0; sync 1 0 = BROKEN; host 0 0 = END; seek 1 0 1 = 1
                sync 1 0 = 1; host 0 0 = 9
                """);
        Runs.finish();
    }
}
