/** Promise 2: put. */
public final class Promise02Test {
    public static void main(String[] args) {
        Runs.run("2: a file 0 .. 7, else REFUSED", """
                put 0 1 50 = 0; put 7 1 60 = 0; put -1 1 50 = REFUSED; put 8 1 50 = REFUSED
                put 2147483647 1 50 = REFUSED; put -2147483648 1 50 = REFUSED; host 0 0 = 50; host 7 0 = 60
                """ + Runs.each(1, 6, "host # 0 = ABSENT"));
        Runs.run("2: a length 0 .. 32, else REFUSED", """
                put 0 0 5 = 0; host 0 0 = END; put 1 32 5 = 0; host 1 31 = 222; host 1 32 = END
                put 2 -1 5 = REFUSED; put 2 33 5 = REFUSED; put 2 2147483647 5 = REFUSED
                put 2 -2147483648 5 = REFUSED; host 2 0 = ABSENT
                """);
        Runs.run("2: REFUSED leaves the one before", "put 0 2 5 = 0; put 0 33 9 = REFUSED; host 0 1 = 12; host 0 2 = END");
        cells();
        Runs.run("2: in place of a longer one", """
                put 4 32 1 = 0; put 4 2 100 = 0; host 4 0 = 100; host 4 1 = 107; host 4 2 = END; host 4 31 = END
                open 1 4 1 = 0; seek 1 0 2 = 2; seek 1 0 3 = REFUSED
                """);
        Runs.run("2: in place of a shorter one", """
                put 4 2 1 = 0; put 4 32 100 = 0; host 4 0 = 100; host 4 31 = 61; open 1 4 1 = 0; seek 1 0 32 = 32
                """);
        Runs.run("2: in place of any by one of length 0", """
                put 4 2 1 = 0; put 4 0 1 = 0; host 4 0 = END; open 1 4 1 = 0; read 1 0 = END; seek 1 0 1 = REFUSED
                """);
        Runs.run("2: the cells of the one before do not come back when it grows", """
                put 4 32 1 = 0; put 4 2 100 = 0; open 1 4 3 = 0; seek 1 0 2 = 2; write 1 0 9 = 1; read 1 0 = END
                sync 1 0 = 1; host 4 1 = 107; host 4 2 = 9; host 4 3 = END
                """);
        Runs.run("2: nor when the host's length comes to be above them", """
                put 0 32 1 = 0; put 0 4 200 = 0; put 1 32 0 = 0; open 1 0 7 = 0; open 1 1 1 = 1
                """ + Runs.each(1, 5, "write 1 0 # = 1") + """
                seek 1 0 0 = 0; read 1 0 = 200; read 1 1 = 0; seek 1 1 8 = 8; read 1 1 = 56; seek 1 1 16 = 16; read 1 1 = 112
                seek 1 1 24 = 24; read 1 1 = 168; log 1 = 65; host 0 8 = 5; host 0 9 = END; host 0 3 = 221
                host 0 4 = 0; host 0 5 = 0; host 0 6 = 0; host 0 7 = 0; sync 1 0 = 1; host 0 4 = 1; host 0 7 = 4
                """);
        busyWhileOpen();
        busyWhileCached();
        Runs.run("2: REFUSED before BUSY", "put 4 8 1 = 0; open 1 4 1 = 0; put 4 33 1 = REFUSED; put 4 32 1 = BUSY");
        Runs.run("2: no operation, so none fails", """
                failing 3 = 0; put 0 32 1 = 0; put 0 3 1 = 0; count 0 = 0; count 4 = 3; log 0 = REFUSED; cached 0 = REFUSED
                """);
        Runs.run("2: whatever the policy is", """
                policy 0 0 = 0; policy 1 1 = 0; put 0 1 7 = 0; put 1 1 8 = 0; host 0 0 = 7; host 1 0 = 8
                open 1 0 1 = ABSENT; open 1 1 2 = DENIED
                """);
        Runs.finish();
    }

    private static void cells() {
        int[] firsts = {0, 1, 249, 250, 255, 256, -1, -256, Integer.MAX_VALUE, Integer.MIN_VALUE};
        for (int first : firsts) {
            StringBuilder rows = new StringBuilder("put 3 32 " + first + " = 0\n");
            for (int i = 0; i < 32; i++) {
                rows.append("host 3 ").append(i).append(" = ").append(Math.floorMod(first + 7L * i, 256)).append("\n");
            }
            Runs.run("2: cell i is (first + 7 * i) & 255", rows.toString());
        }
    }

    private static void busyWhileOpen() {
        Runs.run("2: BUSY while an opening is of it, whatever it is for", """
                put 4 8 1 = 0; open 1 4 0 = 0; put 4 1 1 = BUSY; host 4 7 = 50; close 1 0 = 0; put 4 1 1 = 0
                host 4 1 = END
                """);
        Runs.run("2: BUSY until the last descriptor of any process goes", """
                put 4 8 1 = 0; open 1 4 1 = 0; dup 1 0 = 1; fork 1 = 2; close 1 0 = 0; put 4 1 1 = BUSY; close 1 1 = 0
                put 4 1 1 = BUSY; close 2 0 = 0; put 4 1 1 = BUSY; exit 2 0 = 0; put 4 1 1 = 0
                """);
        Runs.run("2: other files and pipes do not make it BUSY", """
                put 4 8 1 = 0; open 1 4 1 = 0; read 1 0 = 1; pipe 1 = 17; put 5 1 1 = 0; put 3 1 1 = 0; put 0 1 1 = 0
                """);
    }

    private static void busyWhileCached() {
        Runs.run("2: BUSY while a block of it is in the cache, dirty or not", """
                put 4 8 1 = 0; open 1 4 1 = 0; read 1 0 = 1; close 1 0 = 0; put 4 1 1 = BUSY; host 4 7 = 50
                put 5 8 1 = 0; open 1 5 3 = 0; write 1 0 9 = 1; close 1 0 = 0; put 5 1 1 = BUSY; count 3 = 1
                """);
        Runs.run("2: BUSY while the only block left of it is the longest unused", States.FIVE_BLOCKS + """
                put 2 32 0 = 0; open 1 2 1 = 2; read 1 2 = 0; close 1 1 = 0; put 1 8 0 = BUSY
                seek 1 2 8 = 8; read 1 2 = 56; seek 1 2 16 = 16; read 1 2 = 112; cached 3 = 1; put 1 8 0 = BUSY
                seek 1 2 24 = 24; read 1 2 = 168; cached 4 = 1; put 1 8 0 = BUSY
                seek 1 0 0 = 0; read 1 0 = 9; put 1 8 3 = 0; host 1 0 = 3; host 1 8 = END
                """);
        Runs.run("2: not BUSY once its blocks left with a crash, an unlink or emptied", """
                put 4 8 1 = 0; open 1 4 3 = 0; write 1 0 9 = 1; crash = 0; put 4 1 1 = 0
                open 1 4 3 = 0; write 1 0 9 = 1; close 1 0 = 0; put 4 1 1 = BUSY; unlink 1 4 = 0; put 4 1 1 = 0
                open 1 4 3 = 0; write 1 0 9 = 1; close 1 0 = 0; open 1 4 16 = 0; close 1 0 = 0; put 4 1 2 = 0; host 4 0 = 2
                """);
    }
}
