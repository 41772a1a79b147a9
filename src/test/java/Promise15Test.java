/** Promise 15: exit. */
public final class Promise15Test {
    public static void main(String[] args) {
        Runs.run("15: no alive process with that number: REFUSED", """
                exit 0 0 = REFUSED; exit 2 0 = REFUSED; exit 7 0 = REFUSED; exit -1 0 = REFUSED; exit 2147483647 0 = REFUSED
                exit -2147483648 0 = REFUSED; fork 1 = 2; exit 2 3 = 0; exit 2 4 = REFUSED; wait 1 = 26; exit 2 5 = REFUSED
                """);
        Runs.run("15: a code 0 .. 99, else REFUSED, and it does not end", """
                fork 1 = 2; exit 2 100 = REFUSED; exit 2 -1 = REFUSED; exit 2 2147483647 = REFUSED
                exit 2 -2147483648 = REFUSED; wait 1 = AGAIN; fork 2 = 3; exit 3 0 = 0; wait 2 = 3; exit 2 99 = 0; wait 1 = 794
                """);
        Runs.run("15: 1 may not: REFUSED, and it goes on", """
                pipe 1 = 8; exit 1 0 = REFUSED; exit 1 99 = REFUSED; exit 1 100 = REFUSED; count 2 = 1; count 1 = 2
                fork 1 = 2; read 1 0 = AGAIN
                """);
        Runs.run("15: its descriptors are free, openings that no other has go", """
                pipe 1 = 8; fork 1 = 2; pipe 2 = 26; open 2 0 8 = 4; dup 2 4 = 5; count 1 = 5; close 1 0 = 0; exit 2 0 = 0
                count 1 = 1; write 1 1 5 = END; unlink 1 0 = 0
                """);
        Runs.run("15: openings that another has stay", """
                put 0 9 1 = 0; open 1 0 1 = 0; pipe 1 = 17; fork 1 = 2; exit 2 0 = 0; count 1 = 3; read 1 0 = 1
                write 1 2 5 = 1; read 1 1 = 5; read 1 1 = AGAIN
                """);
        Runs.run("15: every call of an ended process: REFUSED", """
                put 0 9 1 = 0; fork 1 = 2; pipe 2 = 8; exit 2 0 = 0; open 2 0 1 = REFUSED; pipe 2 = REFUSED; read 2 0 = REFUSED
                write 2 1 1 = REFUSED; seek 2 0 0 = REFUSED; sync 2 0 = REFUSED; dup 2 0 = REFUSED; close 2 0 = REFUSED
                unlink 2 0 = REFUSED; fork 2 = REFUSED; exit 2 0 = REFUSED; wait 2 = REFUSED
                """);
        Runs.run("15: it is there until it is waited for", "fork 1 = 2; exit 2 0 = 0; count 2 = 2; fork 1 = 3; wait 1 = 2; count 2 = 2");
        Runs.run("15: process 1 is the parent of its alive children", """
                fork 1 = 2; fork 2 = 3; fork 2 = 4; exit 2 6 = 0; wait 1 = 50; wait 1 = AGAIN; exit 4 1 = 0; wait 1 = 12
                exit 3 2 = 0; wait 1 = 19; wait 1 = BUSY
                """);
        Runs.run("15: and of its ended ones", """
                fork 1 = 2; fork 2 = 3; exit 3 7 = 0; wait 1 = AGAIN; exit 2 6 = 0; wait 1 = 50; wait 1 = 59; wait 1 = BUSY
                """);
        Runs.run("15: not of its children's children", """
                fork 1 = 2; fork 2 = 3; fork 3 = 4; exit 2 0 = 0; wait 1 = 2; exit 4 9 = 0; wait 1 = AGAIN; wait 3 = 76
                """);
        Runs.run("15: not of children of others", "fork 1 = 2; fork 1 = 3; fork 3 = 4; exit 2 0 = 0; wait 1 = 2; exit 4 1 = 0; wait 3 = 12");
        Runs.run("15: children of one that had the number before are not the new one's", """
                fork 1 = 2; fork 2 = 3; exit 2 0 = 0; wait 1 = 2; fork 1 = 2; wait 2 = BUSY; exit 3 5 = 0; wait 2 = BUSY
                wait 1 = 43
                """);
        Runs.run("15: the last number is as the others", """
                fork 1 = 2; fork 1 = 3; fork 1 = 4; fork 1 = 5; fork 5 = 6; exit 6 3 = 0; wait 1 = AGAIN; exit 5 2 = 0
                wait 1 = 21; wait 1 = 30
                """);
        Runs.finish();
    }
}
