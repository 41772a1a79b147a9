/** Promise 3: policy. */
public final class Promise03Test {
    public static void main(String[] args) {
        Runs.run("3: a policy 0 .. 2, else REFUSED, and it stays", """
                put 0 1 1 = 0; policy 0 1 = 0; policy 0 3 = REFUSED; policy 0 -1 = REFUSED; policy 0 2147483647 = REFUSED
                policy 0 -2147483648 = REFUSED; open 1 0 2 = DENIED; open 1 0 1 = 0
                policy 0 0 = 0; open 1 0 1 = ABSENT; policy 0 2 = 0; open 1 0 3 = 1
                """);
        Runs.run("3: of a file 0 .. 7, else REFUSED", """
                policy 0 0 = 0; policy 7 0 = 0; policy -1 1 = REFUSED; policy 8 1 = REFUSED
                policy 2147483647 1 = REFUSED; policy -2147483648 1 = REFUSED
                open 1 0 8 = ABSENT; open 1 7 8 = ABSENT; open 1 1 8 = 0; open 1 6 8 = 1
                """);
        Runs.run("3: 2 at first", Runs.each(0, 5, "put # 1 1 = 0; open 1 # 3 = #"));
        Runs.run("3: each file has its own", """
                policy 3 1 = 0; put 2 1 1 = 0; put 3 1 1 = 0; put 4 1 1 = 0
                open 1 2 2 = 0; open 1 3 2 = DENIED; open 1 4 2 = 1
                """);
        Runs.run("3: for opens to come, not for those that are there", """
                put 0 4 1 = 0; open 1 0 3 = 0; policy 0 1 = 0; write 1 0 9 = 1; policy 0 0 = 0
                read 1 0 = 8; write 1 0 7 = 1; sync 1 0 = 1; seek 1 0 0 = 0; read 1 0 = 9
                dup 1 0 = 1; fork 1 = 2; write 2 1 3 = 1; host 0 0 = 9; host 0 2 = 7; open 1 0 1 = ABSENT
                """);
        Runs.run("3: a file that is not there has one", """
                policy 5 1 = 0; open 1 5 8 = DENIED; put 5 1 1 = 0; open 1 5 2 = DENIED; open 1 5 1 = 0
                """);
        Runs.run("3: put, unlink and crash leave it", """
                policy 1 1 = 0; put 1 3 0 = 0; open 1 1 2 = DENIED; crash = 0; open 1 1 2 = DENIED; policy 1 2 = 0
                unlink 1 1 = 0; open 1 1 10 = 0; policy 1 0 = 0; crash = 0; open 1 1 1 = ABSENT
                """);
        Runs.run("3: no operation", "policy 0 1 = 0; policy 0 2 = 0; count 0 = 0");
        Runs.finish();
    }
}
