/** Promise 9: seek. */
public final class Promise09Test {
    public static void main(String[] args) {
        Runs.run("9: no alive process with that number, or no descriptor 0 .. 5: REFUSED", """
                seek 0 0 0 = REFUSED; seek 2 0 0 = REFUSED; seek 7 0 0 = REFUSED; seek -1 0 0 = REFUSED
                seek 1 6 0 = REFUSED; seek 1 -1 0 = REFUSED; seek 1 2147483647 0 = REFUSED; seek 1 -2147483648 0 = REFUSED
                fork 1 = 2; exit 2 0 = 0; seek 2 0 0 = REFUSED
                """);
        Runs.run("9: a position 0 .. 32, else REFUSED, and POSITION stays", """
                put 0 32 0 = 0; open 1 0 1 = 0; seek 1 0 0 = 0; seek 1 0 32 = 32; seek 1 0 3 = 3; seek 1 0 33 = REFUSED
                seek 1 0 -1 = REFUSED; seek 1 0 2147483647 = REFUSED; seek 1 0 -2147483648 = REFUSED; read 1 0 = 21
                """);
        Runs.run("9: REFUSED before CLOSED", """
                seek 1 0 33 = REFUSED; seek 1 0 -1 = REFUSED; seek 1 0 32 = CLOSED; seek 1 0 0 = CLOSED; pipe 1 = 8
                seek 1 0 33 = REFUSED; seek 1 1 33 = REFUSED; seek 1 0 -1 = REFUSED
                """);
        Runs.run("9: of an end of a pipe: CLOSED", """
                pipe 1 = 8; seek 1 0 0 = CLOSED; seek 1 1 0 = CLOSED; seek 1 0 32 = CLOSED; seek 1 1 32 = CLOSED
                """);
        Runs.run("9: to LENGTH, above LENGTH: REFUSED, and POSITION stays", """
                put 0 4 0 = 0; open 1 0 1 = 0; seek 1 0 4 = 4; read 1 0 = END; seek 1 0 1 = 1; seek 1 0 5 = REFUSED
                seek 1 0 32 = REFUSED; read 1 0 = 7
                """);
        Runs.run("9: in an empty file to 0 alone", "put 0 0 0 = 0; open 1 0 1 = 0; seek 1 0 0 = 0; seek 1 0 1 = REFUSED");
        Runs.run("9: LENGTH is the kernel's, not the host's", """
                open 1 0 11 = 0; seek 1 0 1 = REFUSED; write 1 0 5 = 1; host 0 0 = END; seek 1 0 1 = 1; seek 1 0 2 = REFUSED
                read 1 0 = END; seek 1 0 0 = 0; read 1 0 = 5; open 1 0 16 = 1; seek 1 0 1 = REFUSED; seek 1 0 0 = 0
                """);
        Runs.run("9: whatever the opening is for", """
                put 0 4 0 = 0; open 1 0 0 = 0; seek 1 0 4 = 4; open 1 0 2 = 1; seek 1 1 2 = 2; write 1 1 99 = 1; open 1 0 5 = 2
                seek 1 2 2 = 2; read 1 2 = 99; open 1 0 7 = 3; seek 1 3 1 = 1; read 1 3 = 7
                """);
        Runs.run("9: POSITION of this opening alone", """
                put 0 4 0 = 0; open 1 0 1 = 0; open 1 0 1 = 1; dup 1 0 = 2; seek 1 0 3 = 3; read 1 1 = 0; read 1 2 = 21
                """);
        Runs.run("9: no operation, and no block is used", States.FIVE_BLOCKS + """
                failing 1 = 0; seek 1 0 0 = 0; count 0 = 5; count 4 = 1; cached 0 = 1; cached 4 = 32
                """);
        Runs.finish();
    }
}
