/** Promise 20: cached. */
public final class Promise20Test {
    public static void main(String[] args) {
        Runs.run("20: none: REFUSED", "cached 0 = REFUSED; cached 1 = REFUSED; cached -1 = REFUSED; cached 5 = REFUSED");
        Runs.run("20: the i-th, 0 the last used one, to the number of blocks", """
                put 7 32 0 = 0; open 1 7 3 = 0; read 1 0 = 0; cached 0 = 7; cached 1 = REFUSED; seek 1 0 24 = 24; write 1 0 1 = 1
                cached 0 = 63; cached 1 = 7; cached 2 = REFUSED; seek 1 0 0 = 0; read 1 0 = 0; cached 0 = 7; cached 1 = 63
                """);
        Runs.run("20: five at most", States.FIVE_BLOCKS + """
                cached 5 = REFUSED; cached 6 = REFUSED; cached 2147483647 = REFUSED; cached -1 = REFUSED
                cached -2147483648 = REFUSED; seek 1 1 8 = 8; read 1 1 = 56; cached 0 = 9; cached 1 = 1; cached 4 = 8
                cached 5 = REFUSED
                """);
        Runs.run("20: file + 8 * block, + 32 if it is dirty", """
                put 0 32 0 = 0; put 5 32 0 = 0; open 1 0 3 = 0; open 1 5 3 = 1; read 1 0 = 0; cached 0 = 0; write 1 0 1 = 1
                cached 0 = 32; seek 1 1 16 = 16; read 1 1 = 112; cached 0 = 21; write 1 1 1 = 1; cached 0 = 53; sync 1 1 = 1
                cached 0 = 21; cached 1 = 32
                """);
        Runs.run("20: a read of a dirty block leaves it dirty", """
                open 1 0 11 = 0; write 1 0 1 = 1; seek 1 0 0 = 0; read 1 0 = 1; cached 0 = 32
                """);
        Runs.run("20: what is asked is not used", States.FIVE_BLOCKS + "cached 4 = 32; cached 4 = 32; cached 0 = 1; count 0 = 5");
        Runs.run("20: less after some left", States.FIVE_BLOCKS + """
                close 1 1 = 0; unlink 1 1 = 0; cached 3 = 32; cached 4 = REFUSED; cached 0 = 24; open 1 0 16 = 1; cached 0 = REFUSED
                """);
        Runs.finish();
    }
}
