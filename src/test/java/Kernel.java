/** A call by its name and its numbers, so that tests can write runs of calls as text. */
interface Kernel {
    int answer(String call, int[] n);

    /** The calls of the document's face, with how many numbers each takes. */
    String[] CALLS = {
        "put", "policy", "failing", "open", "pipe", "read", "write", "seek", "sync", "dup",
        "close", "unlink", "fork", "exit", "wait", "crash", "host", "log", "cached", "count"
    };
    int[] NUMBERS = {3, 2, 1, 3, 1, 2, 3, 3, 2, 2, 2, 2, 1, 2, 1, 0, 2, 1, 1, 1};

    /** As many calls as the document promises answers of one object. */
    int PROMISED = 512;

    /** A new object of the program; a call that the document leaves free is a fault of the test. */
    static Kernel ofProgram() {
        Kernel program = ofProgramForEver();
        int[] calls = {0};
        return (call, n) -> {
            calls[0]++;
            if (calls[0] > PROMISED) {
                throw new AssertionError("the test makes more than " + PROMISED + " calls");
            }
            return program.answer(call, n);
        };
    }

    static Kernel ofProgramForEver() {
        SandKernel x = new SandKernel();
        return (call, n) -> switch (call) {
            case "put" -> x.put(n[0], n[1], n[2]);
            case "policy" -> x.policy(n[0], n[1]);
            case "failing" -> x.failing(n[0]);
            case "open" -> x.open(n[0], n[1], n[2]);
            case "pipe" -> x.pipe(n[0]);
            case "read" -> x.read(n[0], n[1]);
            case "write" -> x.write(n[0], n[1], n[2]);
            case "seek" -> x.seek(n[0], n[1], n[2]);
            case "sync" -> x.sync(n[0], n[1]);
            case "dup" -> x.dup(n[0], n[1]);
            case "close" -> x.close(n[0], n[1]);
            case "unlink" -> x.unlink(n[0], n[1]);
            case "fork" -> x.fork(n[0]);
            case "exit" -> x.exit(n[0], n[1]);
            case "wait" -> x.wait(n[0]);
            case "crash" -> x.crash();
            case "host" -> x.host(n[0], n[1]);
            case "log" -> x.log(n[0]);
            case "cached" -> x.cached(n[0]);
            case "count" -> x.count(n[0]);
            default -> throw new IllegalArgumentException("no such call: " + call);
        };
    }
}
