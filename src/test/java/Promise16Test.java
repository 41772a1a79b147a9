/** Promise 16: wait. */
public final class Promise16Test {
    public static void main(String[] args) {
        Runs.run("16: no alive process with that number: REFUSED", """
                wait 0 = REFUSED; wait 2 = REFUSED; wait 7 = REFUSED; wait -1 = REFUSED; wait 2147483647 = REFUSED
                wait -2147483648 = REFUSED; fork 1 = 2; fork 2 = 3; exit 2 0 = 0; wait 2 = REFUSED
                """);
        Runs.run("16: no child: BUSY", "wait 1 = BUSY; fork 1 = 2; wait 2 = BUSY; exit 2 0 = 0; wait 1 = 2; wait 1 = BUSY");
        Runs.run("16: none ended: AGAIN", "fork 1 = 2; wait 1 = AGAIN; fork 1 = 3; wait 1 = AGAIN; count 2 = 3");
        Runs.run("16: the least ended child, whichever ended first", """
                fork 1 = 2; fork 1 = 3; fork 1 = 4; exit 4 9 = 0; exit 3 8 = 0; wait 1 = 67; wait 1 = 76; wait 1 = AGAIN
                exit 2 0 = 0; wait 1 = 2; wait 1 = BUSY
                """);
        Runs.run("16: its number + 8 * its code, the least and the greatest", States.SIX_PROCESSES + """
                exit 2 0 = 0; exit 6 99 = 0; wait 1 = 2; wait 1 = 798; wait 1 = AGAIN; count 2 = 4
                """);
        Runs.run("16: it is not there any more", """
                fork 1 = 2; fork 1 = 3; exit 2 1 = 0; count 2 = 3; wait 1 = 10; count 2 = 2; wait 1 = AGAIN; fork 1 = 2
                """);
        Runs.run("16: only children of the process", """
                fork 1 = 2; fork 2 = 3; exit 3 1 = 0; wait 1 = AGAIN; wait 2 = 11; wait 2 = BUSY; fork 1 = 3
                wait 2 = BUSY; exit 3 2 = 0; wait 2 = BUSY; wait 1 = 19
                """);
        Runs.run("16: an ended one is no child of a process that takes its parent's number", """
                fork 1 = 2; fork 2 = 3; exit 3 4 = 0; exit 2 0 = 0; wait 1 = 2; fork 1 = 2; wait 2 = BUSY; wait 1 = 35
                """);
        Runs.run("16: child 6 of process 5", States.SIX_PROCESSES + """
                exit 6 0 = 0; wait 1 = 6; fork 5 = 6; wait 5 = AGAIN; exit 6 1 = 0; wait 5 = 14; wait 5 = BUSY
                """);
        Runs.finish();
    }
}
