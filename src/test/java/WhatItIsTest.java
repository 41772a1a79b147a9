/** 'What it is' promises 512 calls of one object; what later calls answer is free, but none may throw. */
public final class WhatItIsTest {
    public static void main(String[] args) {
        fullRun("operations", "open 1 # 24 = 0", "close 1 0 = 0");
        fullRun("pipes", "pipe 1 = 8", "write 1 1 # = 1", "read 1 0 = #", "close 1 0 = 0", "close 1 1 = 0");
        fullRun("processes", "fork 1 = 2", "pipe 2 = 8", "exit 2 # = 0", "wait 1 = -");
        fullRun("crashes", "put # 9 1 = 0", "open 1 # 3 = 0", "read 1 0 = 1", "write 1 0 1 = 1", "crash = 0");
        fullRun("files", "open 1 # 11 = 0", "write 1 0 7 = 1", "close 1 0 = 0", "unlink 1 # = 0");
        manyMoreCalls();
        Runs.finish();
    }

    /** Rows again and again to the 512th call, '#' going through 0 .. 7 and '-' being 2 + 8 * that. */
    private static void fullRun(String title, String... rows) {
        StringBuilder text = new StringBuilder();
        for (int call = 0; call < Kernel.PROMISED; call++) {
            int n = call / rows.length % 8;
            text.append(rows[call % rows.length].replace("#", "" + n).replace("-", "" + (2 + 8 * n))).append("\n");
        }
        Runs.run("What it is: 512 calls, " + title, text.toString());
    }

    private static void manyMoreCalls() {
        Kernel kernel = Kernel.ofProgramForEver();
        int[] wild = {-1, 0, 1, 2, 3, 5, 6, 7, 8, 11, 27, 31, 32, 33, Integer.MAX_VALUE, Integer.MIN_VALUE};
        int state = 1;
        for (int i = 0; i < 300_000; i++) {
            state = state * 1103515245 + 12345;
            int call = (state >>> 16) % Kernel.CALLS.length;
            int[] numbers = new int[Kernel.NUMBERS[call]];
            for (int k = 0; k < numbers.length; k++) {
                state = state * 1103515245 + 12345;
                numbers[k] = wild[(state >>> 16) % wild.length];
            }
            Runs.isTrue("call " + i + " does not throw: " + Kernel.CALLS[call],
                    Runs.answerOf(kernel, Kernel.CALLS[call], numbers) != Long.MIN_VALUE);
        }
    }
}
