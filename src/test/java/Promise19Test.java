/** Promise 19: log. */
public final class Promise19Test {
    public static void main(String[] args) {
        Runs.run("19: none: REFUSED", "log 0 = REFUSED; log 1 = REFUSED; log -1 = REFUSED; log 15 = REFUSED; log 16 = REFUSED");
        Runs.run("19: operation + 8 * file + 64 * block, 0 the newest", """
                open 1 3 11 = 0; log 0 = 26; write 1 0 1 = 1; sync 1 0 = 1; log 0 = 25
                open 1 3 17 = 1; log 0 = 27; close 1 0 = 0; close 1 1 = 0; unlink 1 3 = 0; log 0 = 28
                put 3 32 0 = 0; open 1 3 3 = 0; seek 1 0 31 = 31; read 1 0 = 217; log 0 = 216
                seek 1 0 8 = 8; write 1 0 5 = 1; log 0 = 88; sync 1 0 = 1; log 0 = 89
                log 1 = 88; log 2 = 216; log 3 = 28; log 4 = 27; log 5 = 25; log 6 = 26; log 7 = REFUSED
                """);
        Runs.run("19: file 0 and file 7", "open 1 0 8 = 0; log 0 = 2; open 1 7 8 = 1; log 0 = 58; log 1 = 2");
        Runs.run("19: + 256 if it failed", """
                put 7 32 0 = 0; open 1 7 1 = 0; seek 1 0 24 = 24; failing 1 = 0; read 1 0 = BROKEN; log 0 = 504
                read 1 0 = 168; log 0 = 248; log 1 = 504
                """);
        Runs.run("19: below 0: REFUSED", "open 1 0 8 = 0; log -1 = REFUSED; log -16 = REFUSED; log -2147483648 = REFUSED");
        atEachNumberOfOperations();
        Runs.finish();
    }

    /** The log has 16 entries at most: each number of operations around 16 and its multiples is an edge. */
    private static void atEachNumberOfOperations() {
        for (int operations = 0; operations <= 50; operations++) {
            StringBuilder rows = new StringBuilder("put 0 0 0 = 0; put 1 0 0 = 0; put 2 0 0 = 0\n");
            for (int i = 0; i < operations; i++) {
                rows.append("open 1 ").append(i % 3).append(" 16 = 0; close 1 0 = 0\n");
            }
            rows.append("count 0 = ").append(operations).append("\n");
            for (int i = 0; i <= 15; i++) {
                rows.append("log ").append(i).append(" = ");
                rows.append(i < operations ? 3 + 8 * ((operations - 1 - i) % 3) : -1).append("\n");
            }
            rows.append("log 16 = REFUSED; log 17 = REFUSED; log 2147483647 = REFUSED\n");
            Runs.run("19: entries 0 to 15 after " + operations + " operations", rows.toString());
        }
    }
}
