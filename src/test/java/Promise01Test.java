import java.util.Random;

/** Promise 1: a new object. */
public final class Promise01Test {
    public static void main(String[] args) {
        Runs.run("1: no file is there", Runs.each(0, 7, "host # 0 = ABSENT; open 1 # 1 = ABSENT; unlink 1 # = ABSENT"));
        Runs.run("1: the policy of each file is 2", Runs.each(0, 7, "open 1 # 31 = 0; close 1 0 = 0; unlink 1 # = 0"));
        Runs.run("1: the log is empty, and no operation is to fail", """
                count 0 = 0; log 0 = REFUSED; log 15 = REFUSED; count 4 = 0; open 1 0 8 = 0; log 0 = 2; log 1 = REFUSED
                """);
        Runs.run("1: the cache is empty", "cached 0 = REFUSED; cached 4 = REFUSED; count 3 = 0");
        Runs.run("1: process 1 alone is there, and has no child", """
                count 2 = 1; fork 2 = REFUSED; fork 6 = REFUSED; wait 1 = BUSY; fork 1 = 2
                """);
        Runs.run("1: no descriptor is in use, no opening is there",
                "count 1 = 0\n" + Runs.each(0, 5, "read 1 # = CLOSED; close 1 # = CLOSED"));
        objectsShareNothing();
        Runs.finish();
    }

    /** Two objects are called in turn, each with a run of its own, and a third is made in the midst. */
    private static void objectsShareNothing() {
        Kernel[] programs = {Kernel.ofProgram(), Kernel.ofProgram()};
        Kernel[] models = {new Model(), new Model()};
        Random random = new Random(1);
        int calls = Kernel.PROMISED - 16;
        for (int i = 0; i < 2 * calls; i++) {
            int call = RandomRunsTest.chosen(random, RandomRunsTest.weights(0));
            int[] numbers = RandomRunsTest.numbersFor(random, call);
            String what = "1: object " + i % 2 + " of two, call " + i / 2 + ": " + Kernel.CALLS[call];
            int want = models[i % 2].answer(Kernel.CALLS[call], numbers);
            Runs.due(what, programs[i % 2].answer(Kernel.CALLS[call], numbers), want);
            if (i == calls) {
                Runs.run("1: an object made while others are in use", Runs.each(0, 7, "host # 0 = ABSENT; open 1 # 24 = 0; close 1 0 = 0"));
            }
        }
        for (int entry = 0; entry < 16; entry++) {
            for (int i = 0; i < 2; i++) {
                int want = models[i].answer("log", new int[] {entry});
                Runs.due("1: object " + i + " of two: log " + entry, programs[i].answer("log", new int[] {entry}), want);
            }
        }
    }
}
