/** Promises 14 to 16: fork, exit and wait. */
public final class ProcessTest {
    public static void main(String[] args) {
        fork();
        exit();
        waitForChild();
        Runs.finish();
    }

    private static void fork() {
        Runs.run("14: descriptors of the same openings", """
                put 0 9 1 = 0; open 1 0 1 = 0; dup 1 0 = 1; open 1 0 1 = 2; close 1 1 = 0; fork 1 = 2; count 1 = 2
                read 2 0 = 1; read 1 0 = 8; read 2 1 = CLOSED; read 2 2 = 1; read 1 2 = 8; close 1 0 = 0
                read 2 0 = 15; count 1 = 2; open 1 0 1 = 0; open 2 0 1 = 1; count 1 = 4; close 2 0 = 0; count 1 = 3
                read 1 3 = CLOSED; unlink 1 0 = BUSY
                """);
        Runs.run("14: the least number that is not there, to six", """
                fork 1 = 2; fork 2 = 3; fork 1 = 4; fork 4 = 5; fork 5 = 6; fork 1 = FULL; fork 6 = FULL; count 2 = 6
                exit 3 5 = 0; fork 1 = FULL; count 2 = 6; wait 2 = 43; count 2 = 5; fork 6 = 3; fork 3 = FULL
                """);
        Runs.run("14: wrong numbers", """
                fork 0 = REFUSED; fork 2 = REFUSED; fork 7 = REFUSED; fork -1 = REFUSED; fork 2147483647 = REFUSED
                fork 1 = 2; exit 2 0 = 0; fork 2 = REFUSED; count 2 = 2; fork 1 = 3
                """);
        Runs.run("14: no descriptor of a process that had the number", """
                pipe 1 = 8; fork 1 = 2; close 1 0 = 0; close 1 1 = 0; exit 2 0 = 0; wait 1 = 2; fork 1 = 2
                read 2 0 = CLOSED; write 2 1 1 = CLOSED; count 1 = 0
                """);
    }

    private static void exit() {
        Runs.run("15: numbers", """
                exit 1 0 = REFUSED; exit 2 0 = REFUSED; exit 0 0 = REFUSED; exit 7 0 = REFUSED; fork 1 = 2
                exit 2 100 = REFUSED; exit 2 -1 = REFUSED; count 2 = 2; exit 2 99 = 0; exit 2 0 = REFUSED
                wait 1 = 794; exit 2 0 = REFUSED
                """);
        Runs.run("15: its descriptors are free", """
                fork 1 = 2; pipe 2 = 8; open 2 0 8 = 2; count 1 = 3; exit 2 0 = 0; count 1 = 0; read 2 0 = REFUSED
                unlink 1 0 = 0; fork 1 = 3; pipe 1 = 8; read 3 0 = CLOSED
                """);
        Runs.run("15: process 1 is the parent of its children, ended ones too", """
                fork 1 = 2; fork 2 = 3; fork 2 = 4; fork 3 = 5; exit 3 7 = 0; wait 1 = AGAIN; exit 2 6 = 0
                wait 1 = 50; wait 1 = 59; wait 1 = AGAIN; exit 5 1 = 0; wait 1 = 13; exit 4 0 = 0; wait 1 = 4
                wait 1 = BUSY
                """);
    }

    private static void waitForChild() {
        Runs.run("16: BUSY, AGAIN, the least ended child", """
                wait 1 = BUSY; fork 1 = 2; wait 1 = AGAIN; wait 2 = BUSY; fork 1 = 3; fork 1 = 4; exit 4 9 = 0
                exit 3 8 = 0; wait 2 = BUSY; wait 1 = 67; wait 1 = 76; wait 1 = AGAIN; exit 2 0 = 0; wait 1 = 2
                wait 1 = BUSY; count 2 = 1
                """);
        Runs.run("16: only its own children", """
                fork 1 = 2; fork 2 = 3; exit 3 1 = 0; wait 1 = AGAIN; wait 2 = 11; wait 2 = BUSY; fork 1 = 3
                wait 2 = BUSY; exit 3 2 = 0; wait 1 = 19
                """);
        Runs.run("15, 16, 17: the last number is as the others", """
                fork 1 = 2; fork 1 = 3; fork 1 = 4; fork 1 = 5; fork 5 = 6; exit 6 3 = 0; wait 1 = AGAIN; exit 5 2 = 0
                wait 1 = 21; wait 1 = 30; fork 1 = 5; fork 5 = 6; wait 5 = AGAIN; exit 6 1 = 0; wait 5 = 14
                fork 5 = 6; pipe 6 = 8; crash = 0; count 2 = 1; count 1 = 0; fork 6 = REFUSED
                """);
        Runs.run("16: wrong numbers", """
                wait 0 = REFUSED; wait 2 = REFUSED; wait 7 = REFUSED; wait -2147483648 = REFUSED
                fork 1 = 2; fork 2 = 3; exit 2 0 = 0; wait 2 = REFUSED
                """);
    }
}
