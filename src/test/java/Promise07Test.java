/** Promise 7: read. */
public final class Promise07Test {
    public static void main(String[] args) {
        numbers();
        ofPipe();
        ofFile();
        throughTheCache();
        Runs.finish();
    }

    private static void numbers() {
        Runs.run("7: no alive process with that number, or no descriptor 0 .. 5: REFUSED", """
                read 0 0 = REFUSED; read 2 0 = REFUSED; read 7 0 = REFUSED; read -1 0 = REFUSED; read 1 6 = REFUSED
                read 1 -1 = REFUSED; read 1 2147483647 = REFUSED; read 1 -2147483648 = REFUSED
                read 2147483647 0 = REFUSED; fork 1 = 2; exit 2 0 = 0; read 2 0 = REFUSED
                """);
        Runs.run("7: a descriptor that is not in use: CLOSED", Runs.each(0, 5, "read 1 # = CLOSED"));
        Runs.run("7: an opening that does not read: CLOSED", """
                put 0 9 1 = 0; open 1 0 2 = 0; read 1 0 = CLOSED; open 1 0 0 = 1; read 1 1 = CLOSED; open 1 0 6 = 2
                read 1 2 = CLOSED; pipe 1 = 35; write 1 4 9 = 1; read 1 4 = CLOSED; read 1 3 = 9; count 0 = 0
                """);
    }

    private static void ofPipe() {
        Runs.run("7: the oldest cell leaves it", States.FULL_PIPE + Runs.each(11, 14, "read 1 0 = #") + "read 1 0 = AGAIN");
        Runs.run("7: cells go on in their order when the place for four comes round again",
                "pipe 1 = 8; write 1 1 100 = 1; write 1 1 101 = 1; write 1 1 102 = 1\n" + wrapAround());
        Runs.run("7: it is empty: AGAIN if it has a writer", """
                pipe 1 = 8; read 1 0 = AGAIN; write 1 1 0 = 1; read 1 0 = 0; read 1 0 = AGAIN; fork 1 = 2; close 1 1 = 0
                read 1 0 = AGAIN; dup 2 1 = 2; close 2 1 = 0; read 2 0 = AGAIN
                """);
        Runs.run("7: else END, also when it ended with its process", """
                pipe 1 = 8; fork 1 = 2; close 1 1 = 0; exit 2 0 = 0; read 1 0 = END; read 1 0 = END; count 1 = 1
                """);
        Runs.run("7: without a writer its cells can still be read", States.FULL_PIPE + "close 1 1 = 0\n"
                + Runs.each(11, 14, "read 1 0 = #") + "read 1 0 = END");
        Runs.run("7: a new pipe's writer is none of it", "pipe 1 = 8; close 1 1 = 0; pipe 1 = 17; read 1 0 = END; read 1 1 = AGAIN");
        Runs.run("7: of a pipe: no operation", States.FULL_PIPE + "failing 1 = 0; read 1 0 = 11; count 0 = 0; count 4 = 1");
    }

    /** Twenty cells through a pipe that holds three or four. */
    private static String wrapAround() {
        StringBuilder rows = new StringBuilder();
        for (int i = 100; i < 120; i++) {
            rows.append("write 1 1 ").append(i + 3).append(" = 1; write 1 1 0 = AGAIN; read 1 0 = ").append(i).append("\n");
        }
        return rows.toString();
    }

    private static void ofFile() {
        Runs.run("7: cell by cell to the last one, then END", """
                put 0 10 200 = 0; open 1 0 1 = 0; read 1 0 = 200; read 1 0 = 207; seek 1 0 7 = 7; read 1 0 = 249
                read 1 0 = 0; read 1 0 = 7; read 1 0 = END; read 1 0 = END; count 0 = 2
                """);
        Runs.run("7: the 32nd cell is the last of a full file", """
                put 0 32 0 = 0; open 1 0 1 = 0; seek 1 0 31 = 31; read 1 0 = 217; read 1 0 = END; seek 1 0 32 = 32; read 1 0 = END
                """);
        Runs.run("7: of an empty file: END without an operation", """
                put 0 0 0 = 0; open 1 0 1 = 0; read 1 0 = END; count 0 = 0; cached 0 = REFUSED
                """);
        Runs.run("7: END where POSITION is above LENGTH", """
                put 0 20 0 = 0; open 1 0 3 = 0; seek 1 0 19 = 19; open 1 0 18 = 1; write 1 1 5 = 1; read 1 0 = END
                count 0 = 1; write 1 0 6 = 1; seek 1 0 19 = 19; read 1 0 = 6
                """);
        Runs.run("7: with END POSITION stays", """
                put 0 1 4 = 0; open 1 0 1 = 0; open 1 0 6 = 1; read 1 0 = 4; read 1 0 = END; read 1 0 = END
                write 1 1 8 = 1; read 1 0 = 8; read 1 0 = END
                """);
        Runs.run("7: END is against the kernel's LENGTH, not the host's", """
                open 1 0 11 = 0; write 1 0 8 = 1; seek 1 0 0 = 0; host 0 0 = END; read 1 0 = 8
                """);
        Runs.run("7: POSITION is one for all descriptors of the opening", """
                put 0 4 1 = 0; open 1 0 1 = 0; dup 1 0 = 1; fork 1 = 2; read 1 0 = 1; read 1 1 = 8; read 2 0 = 15; read 2 1 = 22
                read 1 0 = END
                """);
        Runs.run("7: all values of a cell", """
                open 1 0 11 = 0; write 1 0 0 = 1; write 1 0 255 = 1; write 1 0 128 = 1; seek 1 0 0 = 0
                read 1 0 = 0; read 1 0 = 255; read 1 0 = 128
                """);
    }

    private static void throughTheCache() {
        Runs.run("7: the block of POSITION is GOT", """
                put 0 32 0 = 0; open 1 0 1 = 0; seek 1 0 23 = 23; read 1 0 = 161; log 0 = 128; cached 0 = 16
                read 1 0 = 168; log 0 = 192; cached 0 = 24; cached 1 = 16; seek 1 0 16 = 16; read 1 0 = 112; count 0 = 2
                cached 0 = 16; cached 1 = 24
                """);
        Runs.run("7: with END no block is GOT", States.FIVE_BLOCKS + """
                seek 1 1 16 = 16; read 1 1 = END; seek 1 0 32 = 32; read 1 0 = END; count 0 = 5
                cached 0 = 1; cached 1 = 24; cached 4 = 32
                """);
        Runs.run("7: a READ fails: BROKEN, POSITION stays, no block", """
                put 0 10 3 = 0; open 1 0 1 = 0; failing 2 = 0; read 1 0 = BROKEN; log 0 = 256; cached 0 = REFUSED
                read 1 0 = BROKEN; count 0 = 2; read 1 0 = 3; read 1 0 = 10; count 0 = 3
                """);
        Runs.run("7: a WRITE fails: BROKEN, POSITION stays", States.FIVE_BLOCKS + """
                seek 1 1 8 = 8; failing 1 = 0; read 1 1 = BROKEN; log 0 = 257; count 0 = 6; read 1 1 = 56; read 1 1 = 63
                """);
    }
}
