/** Promise 4: failing. */
public final class Promise04Test {
    public static void main(String[] args) {
        Runs.run("4: a number 0 .. 9", Runs.each(0, 9, "failing # = 0; count 4 = #"));
        Runs.run("4: else REFUSED, and the number stays", """
                failing 5 = 0; failing 10 = REFUSED; count 4 = 5; failing -1 = REFUSED; count 4 = 5
                failing 2147483647 = REFUSED; failing -2147483648 = REFUSED; count 4 = 5
                """);
        Runs.run("4: the next nine fail, the tenth does not", "failing 9 = 0\n"
                + Runs.each(1, 9, "open 1 0 8 = BROKEN; count 0 = #") + "count 4 = 0; open 1 0 8 = 0; count 0 = 10");
        Runs.run("4: 0: the next one does not fail", "failing 0 = 0; open 1 0 8 = 0; log 0 = 2; count 4 = 0");
        Runs.run("4: 1: the next one alone fails", """
                failing 1 = 0; open 1 0 8 = BROKEN; open 1 0 8 = 0; log 1 = 258; log 0 = 2
                """);
        Runs.run("4: in place of a number said before, larger or smaller", """
                failing 9 = 0; failing 1 = 0; count 4 = 1; open 1 0 8 = BROKEN; open 1 0 8 = 0
                failing 1 = 0; failing 3 = 0; count 4 = 3; open 1 1 8 = BROKEN; failing 3 = 0; count 4 = 3
                failing 0 = 0; open 1 1 8 = 1
                """);
        Runs.run("4: it is no operation itself", "failing 3 = 0; failing 0 = 0; count 0 = 0; log 0 = REFUSED");
        Runs.run("4: calls without an operation leave the number", """
                put 0 8 3 = 0; open 1 0 3 = 0; read 1 0 = 3; failing 3 = 0; read 1 0 = 10; write 1 0 1 = 1; open 1 0 9 = 1
                seek 1 0 8 = 8; write 1 0 2 = 1; read 1 0 = END; pipe 1 = 26; write 1 3 1 = 1; read 1 2 = 1
                fork 1 = 2; exit 2 0 = 0; wait 1 = 2; dup 1 1 = 4; close 1 4 = 0; put 1 1 1 = 0; policy 1 0 = 0
                unlink 1 0 = BUSY; host 0 0 = 3; count 4 = 3; crash = 0; count 4 = 3; count 0 = 1
                """);
        Runs.finish();
    }
}
