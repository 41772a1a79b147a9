/** Promise 8: write. */
public final class Promise08Test {
    public static void main(String[] args) {
        numbers();
        intoPipe();
        intoFile();
        appending();
        full();
        length();
        broken();
        Runs.finish();
    }

    private static void numbers() {
        Runs.run("8: no alive process with that number, or no descriptor 0 .. 5: REFUSED", """
                write 0 0 1 = REFUSED; write 2 0 1 = REFUSED; write 7 0 1 = REFUSED; write -1 0 1 = REFUSED
                write 1 6 1 = REFUSED; write 1 -1 1 = REFUSED; write 1 2147483647 1 = REFUSED
                write 1 -2147483648 1 = REFUSED; fork 1 = 2; exit 2 0 = 0; write 2 0 1 = REFUSED
                """);
        Runs.run("8: a value 0 .. 255, else REFUSED", """
                open 1 0 11 = 0; write 1 0 0 = 1; write 1 0 255 = 1; write 1 0 -1 = REFUSED; write 1 0 256 = REFUSED
                write 1 0 2147483647 = REFUSED; write 1 0 -2147483648 = REFUSED; read 1 0 = END; seek 1 0 0 = 0
                read 1 0 = 0; read 1 0 = 255; read 1 0 = END
                """);
        Runs.run("8: a value out of range: REFUSED into a pipe too", """
                pipe 1 = 8; write 1 1 256 = REFUSED; write 1 1 -1 = REFUSED; read 1 0 = AGAIN; write 1 1 255 = 1; read 1 0 = 255
                """);
        Runs.run("8: REFUSED before CLOSED, END, AGAIN and FULL", States.FULL_PIPE + """
                write 1 5 256 = REFUSED; write 1 5 255 = CLOSED; write 1 0 256 = REFUSED; write 1 0 255 = CLOSED
                write 1 1 256 = REFUSED; write 1 1 255 = AGAIN; close 1 0 = 0; write 1 1 256 = REFUSED; write 1 1 255 = END
                put 0 32 0 = 0; open 1 0 7 = 0; write 1 0 256 = REFUSED; write 1 0 255 = FULL
                """);
        Runs.run("8: a descriptor that is not in use: CLOSED", Runs.each(0, 5, "write 1 # 1 = CLOSED"));
        Runs.run("8: an opening that does not write: CLOSED", """
                put 0 4 1 = 0; open 1 0 1 = 0; write 1 0 5 = CLOSED; open 1 0 0 = 1; write 1 1 5 = CLOSED; open 1 0 4 = 2
                write 1 2 5 = CLOSED; open 1 0 5 = 3; write 1 3 5 = CLOSED; pipe 1 = 44; write 1 4 5 = CLOSED
                read 1 4 = AGAIN; count 3 = 0; count 0 = 0
                """);
    }

    private static void intoPipe() {
        Runs.run("8: four cells go in, with a fifth: AGAIN", """
                pipe 1 = 8; write 1 1 1 = 1; write 1 1 2 = 1; write 1 1 255 = 1; write 1 1 0 = 1; write 1 1 5 = AGAIN
                write 1 1 5 = AGAIN; read 1 0 = 1; write 1 1 6 = 1; write 1 1 7 = AGAIN; read 1 0 = 2
                read 1 0 = 255; read 1 0 = 0; read 1 0 = 6; read 1 0 = AGAIN; count 0 = 0
                """);
        Runs.run("8: it has no reader: END", """
                pipe 1 = 8; close 1 0 = 0; write 1 1 1 = END; write 1 1 1 = END
                """);
        Runs.run("8: no reader: END before AGAIN", States.FULL_PIPE + """
                dup 1 0 = 2; close 1 0 = 0; write 1 1 1 = AGAIN; close 1 2 = 0; write 1 1 1 = END
                """);
        Runs.run("8: a reader in another process is one, until it ends", """
                pipe 1 = 8; fork 1 = 2; close 1 0 = 0; write 1 1 1 = 1; read 2 0 = 1; exit 2 0 = 0; write 1 1 1 = END
                """);
        Runs.run("8: a new opening in the reader's place is no reader", """
                pipe 1 = 8; close 1 0 = 0; pipe 1 = 16; write 1 1 1 = END; write 1 2 3 = 1; read 1 0 = 3
                """);
    }

    private static void intoFile() {
        Runs.run("8: the block of POSITION is GOT, becomes dirty, has the cell there", """
                put 0 12 0 = 0; open 1 0 3 = 0; seek 1 0 9 = 9; write 1 0 200 = 1; log 0 = 64; cached 0 = 40; count 3 = 1
                seek 1 0 8 = 8; read 1 0 = 56; read 1 0 = 200; read 1 0 = 70; count 0 = 1
                sync 1 0 = 1; host 0 8 = 56; host 0 9 = 200; host 0 10 = 70; host 0 7 = 49; host 0 12 = END
                """);
        Runs.run("8: at the first and the last cell of a block", """
                put 0 32 0 = 0; open 1 0 3 = 0; seek 1 0 7 = 7; write 1 0 100 = 1; cached 0 = 32; write 1 0 101 = 1; cached 0 = 40
                seek 1 0 6 = 6; read 1 0 = 42; read 1 0 = 100; read 1 0 = 101; read 1 0 = 63; cached 0 = 40; cached 1 = 32
                """);
        Runs.run("8: the same value makes it dirty too", "put 0 1 5 = 0; open 1 0 2 = 0; write 1 0 5 = 1; count 3 = 1; cached 0 = 32");
        Runs.run("8: POSITION grows by 1", """
                put 0 9 0 = 0; open 1 0 3 = 0; write 1 0 90 = 1; read 1 0 = 7; write 1 0 91 = 1; read 1 0 = 21; seek 1 0 2 = 2
                read 1 0 = 91
                """);
        Runs.run("8: nothing goes to the host before a WRITE", """
                put 0 1 5 = 0; open 1 0 2 = 0; write 1 0 9 = 1; host 0 0 = 5; write 1 0 8 = 1; host 0 1 = END; count 0 = 1
                """);
        Runs.run("8: other openings of the file see the cell", """
                put 0 4 0 = 0; open 1 0 1 = 0; open 1 0 2 = 1; write 1 1 77 = 1; read 1 0 = 77; read 1 0 = 7
                """);
    }

    private static void appending() {
        Runs.run("8: one that appends has POSITION = LENGTH first, wherever it was", """
                put 0 4 0 = 0; open 1 0 7 = 0; read 1 0 = 0; write 1 0 50 = 1; read 1 0 = END; seek 1 0 2 = 2; write 1 0 51 = 1
                read 1 0 = END; seek 1 0 2 = 2; read 1 0 = 14; read 1 0 = 21; read 1 0 = 50; read 1 0 = 51; read 1 0 = END
                """);
        Runs.run("8: LENGTH as others made it", """
                put 0 4 0 = 0; open 1 0 7 = 0; open 1 0 7 = 1; write 1 0 50 = 1; write 1 1 51 = 1; write 1 0 52 = 1
                seek 1 0 4 = 4; read 1 0 = 50; read 1 0 = 51; read 1 0 = 52; open 1 0 16 = 2; write 1 0 53 = 1; seek 1 0 0 = 0
                read 1 0 = 53; read 1 0 = END
                """);
        Runs.run("8: one that does not append writes where it is", """
                put 0 4 0 = 0; open 1 0 3 = 0; write 1 0 50 = 1; read 1 0 = 7; seek 1 0 4 = 4; read 1 0 = END
                """);
        Runs.run("8: to an empty file", "open 1 0 15 = 0; write 1 0 1 = 1; write 1 0 2 = 1; seek 1 0 0 = 0; read 1 0 = 1; read 1 0 = 2");
    }

    private static void full() {
        Runs.run("8: at POSITION 31 there is room, at 32: FULL", """
                put 0 32 0 = 0; open 1 0 3 = 0; seek 1 0 31 = 31; write 1 0 5 = 1; write 1 0 6 = FULL; read 1 0 = END
                write 1 0 6 = FULL; seek 1 0 32 = 32; write 1 0 6 = FULL; seek 1 0 31 = 31; read 1 0 = 5; seek 1 0 0 = 0
                write 1 0 7 = 1
                """);
        Runs.run("8: a file is filled to 32 cells", "open 1 0 15 = 0\n" + Runs.each(1, 32, "write 1 0 # = 1")
                + "write 1 0 33 = FULL; seek 1 0 32 = 32; sync 1 0 = 4; host 0 31 = 32; host 0 32 = END\n"
                + "seek 1 0 0 = 0\n" + Runs.each(1, 32, "read 1 0 = #") + "read 1 0 = END");
        Runs.run("8: one that appends to 32 cells: FULL, POSITION stays", """
                put 0 32 0 = 0; open 1 0 7 = 0; read 1 0 = 0; write 1 0 9 = FULL; read 1 0 = 7; write 1 0 9 = FULL; read 1 0 = 14
                """);
        Runs.run("8: FULL before the block is GOT", States.FIVE_BLOCKS + """
                seek 1 0 32 = 32; write 1 0 6 = FULL; cached 0 = 1; cached 1 = 24; count 0 = 5; count 3 = 1
                """);
    }

    private static void length() {
        Runs.run("8: below LENGTH: LENGTH stays", """
                put 0 4 0 = 0; open 1 0 3 = 0; write 1 0 9 = 1; seek 1 0 5 = REFUSED; seek 1 0 3 = 3; write 1 0 9 = 1
                seek 1 0 5 = REFUSED; read 1 0 = END; sync 1 0 = 1; host 0 4 = END
                """);
        Runs.run("8: at LENGTH: it grows by 1", """
                put 0 4 0 = 0; open 1 0 3 = 0; seek 1 0 4 = 4; write 1 0 9 = 1; seek 1 0 5 = 5; seek 1 0 6 = REFUSED
                """);
        Runs.run("8: above LENGTH: it becomes POSITION + 1, the cells between are 0", """
                put 0 32 1 = 0; open 1 0 3 = 0; seek 1 0 20 = 20; open 1 0 16 = 1; write 1 0 9 = 1; seek 1 0 22 = REFUSED
                seek 1 0 21 = 21; read 1 0 = END; count 0 = 1; cached 0 = 48; cached 1 = REFUSED
                seek 1 0 0 = 0; read 1 0 = 0; log 0 = 0; count 0 = 2; seek 1 0 16 = 16; read 1 0 = 0
                seek 1 0 20 = 20; read 1 0 = 9; read 1 0 = END
                sync 1 1 = 1; log 0 = 129; host 0 0 = 0; host 0 15 = 0; host 0 19 = 0; host 0 20 = 9; host 0 21 = END
                """);
        Runs.run("8: POSITION 32 above LENGTH: FULL all the same", """
                put 0 32 1 = 0; open 1 0 3 = 0; seek 1 0 32 = 32; open 1 0 16 = 1; write 1 0 9 = FULL; seek 1 0 1 = REFUSED
                seek 1 0 0 = 0; write 1 0 9 = 1
                """);
    }

    private static void broken() {
        Runs.run("8: a READ fails: BROKEN, POSITION and cells stay, nothing is dirty", """
                put 0 9 0 = 0; open 1 0 3 = 0; seek 1 0 2 = 2; failing 1 = 0; write 1 0 5 = BROKEN; log 0 = 256; count 3 = 0
                cached 0 = REFUSED; read 1 0 = 14; seek 1 0 2 = 2; write 1 0 5 = 1; read 1 0 = 21; count 0 = 2
                """);
        Runs.run("8: a WRITE fails: BROKEN, an appending one's POSITION and LENGTH stay", States.FIVE_BLOCKS + """
                seek 1 1 3 = 3; failing 1 = 0; write 1 1 5 = BROKEN; log 0 = 257; read 1 1 = 21; seek 1 1 17 = REFUSED
                count 3 = 1; cached 4 = 32; seek 1 1 3 = 3; write 1 1 5 = 1; log 0 = 1; count 0 = 7
                cached 0 = 49; read 1 1 = END; seek 1 1 16 = 16; read 1 1 = 5
                """);
        Runs.run("8: a READ fails for an append: POSITION stays", """
                put 0 9 0 = 0; open 1 0 7 = 0; seek 1 0 2 = 2; failing 1 = 0; write 1 0 5 = BROKEN; log 0 = 320
                seek 1 0 10 = REFUSED; read 1 0 = 14; write 1 0 5 = 1; seek 1 0 10 = 10; seek 1 0 9 = 9; read 1 0 = 5
                """);
    }
}
