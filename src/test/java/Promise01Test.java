/** Promise 1: a new object. */
public final class Promise01Test {
    public static void main(String[] args) {
        Runs.run("1: no file is there", Runs.each(0, 7, "host # 0 = ABSENT; open 1 # 1 = ABSENT; unlink 1 # = ABSENT"));
        Runs.run("1: the policy of each file is 2", Runs.each(0, 7, "open 1 # 31 = 0; close 1 0 = 0; unlink 1 # = 0"));
        Runs.run("1: the log is empty, and no operation is to fail", """
                count 0 = 0; log 0 = REFUSED; log 15 = REFUSED; count 4 = 0; open 1 0 8 = 0; log 0 = 2; log 1 = REFUSED
                """);
        Runs.run("1: the cache is empty", "cached 0 = REFUSED; cached 4 = REFUSED; count 3 = 0");
        Runs.run("1: process 1 alone is there, and has no child", """
                count 2 = 1; fork 2 = REFUSED; fork 6 = REFUSED; wait 1 = BUSY; fork 1 = 2
                """);
        Runs.run("1: no descriptor is in use, no opening is there",
                "count 1 = 0\n" + Runs.each(0, 5, "read 1 # = CLOSED; close 1 # = CLOSED"));
        objectsShareNothing();
        Runs.finish();
    }

    private static void objectsShareNothing() {
        Kernel used = Kernel.ofProgram();
        Kernel other = Kernel.ofProgram();
        Runs.replay(States.FIVE_BLOCKS + "fork 1 = 2; policy 3 0 = 0; failing 4 = 0; open 1 2 8 = BROKEN", used);
        for (Kernel kernel : new Kernel[] {other, Kernel.ofProgram()}) {
            for (int what = 0; what <= 4; what++) {
                Runs.due("1: another object: count " + what, kernel.answer("count", new int[] {what}), what == 2 ? 1 : 0);
            }
            Runs.due("1: another object: host 0 0", kernel.answer("host", new int[] {0, 0}), SandKernel.ABSENT);
            Runs.due("1: another object: open 1 3 8", kernel.answer("open", new int[] {1, 3, 8}), 0);
        }
        Runs.due("1: the first one goes on", used.answer("count", new int[] {4}), 3);
    }
}
