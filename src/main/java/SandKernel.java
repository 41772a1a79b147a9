import java.util.Arrays;

/** A small kernel between processes and a host; ../shared/DOC.md says what each call promises. */
public final class SandKernel {
    public static final int REFUSED = -1;
    public static final int FULL = -2;
    public static final int CLOSED = -3;
    public static final int ABSENT = -4;
    public static final int DENIED = -5;
    public static final int AGAIN = -6;
    public static final int END = -7;
    public static final int BROKEN = -8;
    public static final int BUSY = -9;

    private static final int FILES = 8;
    private static final int FILE_CELLS = 32;
    private static final int BLOCK_CELLS = 8;
    private static final int FILE_BLOCKS = 4;
    private static final int CACHE_BLOCKS = 5;
    private static final int CELL_VALUES = 256;
    private static final int LOG_ENTRIES = 16;
    private static final int MOST_TO_FAIL = 9;

    private static final int PROCESSES = 6;
    private static final int FIRST_PROCESS = 1;
    private static final int DESCRIPTORS = 6;
    private static final int OPENINGS = 16;
    private static final int PIPE_CELLS = 4;
    private static final int EXIT_CODES = 100;

    private static final int OP_READ = 0;
    private static final int OP_WRITE = 1;
    private static final int OP_MAKE = 2;
    private static final int OP_EMPTY = 3;
    private static final int OP_REMOVE = 4;

    private static final int POLICIES = 3;
    private static final int HIDDEN = 0;
    private static final int READ_ONLY = 1;
    private static final int READ_AND_WRITE = 2;

    private static final int MODES = 32;
    private static final int READS = 1;
    private static final int WRITES = 2;
    private static final int APPENDS = 4;
    private static final int IS_MADE = 8;
    private static final int IS_EMPTIED = 16;

    /** What a search answers when nothing is found. */
    private static final int NONE = -1;

    private final Host disk;
    private final Cache cache;
    private final int[] policies;
    private final Opening[] openings;
    /** By process number; number 0 is never there. */
    private final Task[] tasks;

    public SandKernel() {
        disk = new Host();
        cache = new Cache(disk);
        policies = new int[FILES];
        Arrays.fill(policies, READ_AND_WRITE);
        openings = new Opening[OPENINGS];
        for (int i = 0; i < OPENINGS; i++) {
            openings[i] = new Opening();
        }
        tasks = new Task[PROCESSES + 1];
        for (int i = 0; i <= PROCESSES; i++) {
            tasks[i] = new Task();
        }
        tasks[FIRST_PROCESS].begin(NONE);
    }

    public int put(int file, int length, int first) {
        if (!isBelow(file, FILES) || !isBelow(length, FILE_CELLS + 1)) {
            return REFUSED;
        }
        if (isOpen(file) || cache.holdsFile(file)) {
            return BUSY;
        }
        disk.place(file, length, first);
        cache.setLength(file, length);
        return 0;
    }

    public int policy(int file, int policy) {
        if (!isBelow(file, FILES) || !isBelow(policy, POLICIES)) {
            return REFUSED;
        }
        policies[file] = policy;
        return 0;
    }

    public int failing(int n) {
        if (!isBelow(n, MOST_TO_FAIL + 1)) {
            return REFUSED;
        }
        disk.setToFail(n);
        return 0;
    }

    public int open(int process, int file, int mode) {
        if (!isAlive(process) || !isBelow(file, FILES) || !isBelow(mode, MODES)) {
            return REFUSED;
        }
        boolean isMissing = !disk.isThere(file) && (mode & IS_MADE) == 0;
        if (policies[file] == HIDDEN || isMissing) {
            return ABSENT;
        }
        if (policies[file] == READ_ONLY && (mode & ~READS) != 0) {
            return DENIED;
        }
        int descriptor = tasks[process].freeFrom(0);
        int opening = unusedFrom(0);
        if (descriptor == NONE || opening == NONE) {
            return FULL;
        }
        if (!readyFile(file, mode)) {
            return BROKEN;
        }
        openings[opening].becomeFile(file, mode);
        tasks[process].hold(descriptor, openings[opening]);
        return descriptor;
    }

    public int pipe(int process) {
        if (!isAlive(process)) {
            return REFUSED;
        }
        Task task = tasks[process];
        int first = task.freeFrom(0);
        int second = task.freeFrom(first + 1);
        int reader = unusedFrom(0);
        int writer = unusedFrom(reader + 1);
        if (first == NONE || second == NONE || reader == NONE || writer == NONE) {
            return FULL;
        }
        Pipe made = new Pipe();
        openings[reader].becomePipeEnd(made, READS);
        openings[writer].becomePipeEnd(made, WRITES);
        task.hold(first, openings[reader]);
        task.hold(second, openings[writer]);
        return first + 8 * second;
    }

    public int read(int process, int descriptor) {
        Opening opening = openingOf(process, descriptor);
        if (opening == null) {
            return whyNoOpening(process, descriptor);
        }
        if (!opening.may(READS)) {
            return CLOSED;
        }
        Pipe pipe = opening.pipe;
        return pipe == null ? readFile(opening) : pipe.takeCell();
    }

    public int write(int process, int descriptor, int value) {
        if (!isBelow(value, CELL_VALUES)) {
            return REFUSED;
        }
        Opening opening = openingOf(process, descriptor);
        if (opening == null) {
            return whyNoOpening(process, descriptor);
        }
        if (!opening.may(WRITES)) {
            return CLOSED;
        }
        Pipe pipe = opening.pipe;
        return pipe == null ? writeFile(opening, value) : pipe.addCell(value);
    }

    public int seek(int process, int descriptor, int position) {
        if (!isBelow(position, FILE_CELLS + 1)) {
            return REFUSED;
        }
        Opening opening = openingOf(process, descriptor);
        if (opening == null) {
            return whyNoOpening(process, descriptor);
        }
        if (opening.pipe != null) {
            return CLOSED;
        }
        if (position > cache.lengthOf(opening.file)) {
            return REFUSED;
        }
        opening.position = position;
        return position;
    }

    public int sync(int process, int descriptor) {
        Opening opening = openingOf(process, descriptor);
        if (opening == null) {
            return whyNoOpening(process, descriptor);
        }
        if (opening.pipe != null) {
            return CLOSED;
        }
        return cache.writeFileOut(opening.file);
    }

    public int dup(int process, int descriptor) {
        Opening opening = openingOf(process, descriptor);
        if (opening == null) {
            return whyNoOpening(process, descriptor);
        }
        int twin = tasks[process].freeFrom(0);
        if (twin == NONE) {
            return FULL;
        }
        tasks[process].hold(twin, opening);
        return twin;
    }

    public int close(int process, int descriptor) {
        if (openingOf(process, descriptor) == null) {
            return whyNoOpening(process, descriptor);
        }
        tasks[process].letGo(descriptor);
        return 0;
    }

    public int unlink(int process, int file) {
        if (!isAlive(process) || !isBelow(file, FILES)) {
            return REFUSED;
        }
        if (policies[file] == HIDDEN || !disk.isThere(file)) {
            return ABSENT;
        }
        if (policies[file] == READ_ONLY) {
            return DENIED;
        }
        if (isOpen(file)) {
            return BUSY;
        }
        if (!disk.removeFile(file)) {
            return BROKEN;
        }
        cache.dropFile(file);
        return 0;
    }

    public int fork(int process) {
        if (!isAlive(process)) {
            return REFUSED;
        }
        int child = leastNotThere();
        if (child == NONE) {
            return FULL;
        }
        tasks[child].begin(process);
        tasks[child].shareAllOf(tasks[process]);
        return child;
    }

    public int exit(int process, int code) {
        if (!isAlive(process) || process == FIRST_PROCESS || !isBelow(code, EXIT_CODES)) {
            return REFUSED;
        }
        tasks[process].finish(code);
        for (int i = 1; i <= PROCESSES; i++) {
            if (tasks[i].isChildOf(process)) {
                tasks[i].parent = FIRST_PROCESS;
            }
        }
        return 0;
    }

    public int wait(int process) {
        if (!isAlive(process)) {
            return REFUSED;
        }
        boolean hasChild = false;
        for (int i = 1; i <= PROCESSES; i++) {
            Task task = tasks[i];
            if (task.isChildOf(process)) {
                if (task.state == Task.ENDED) {
                    task.vanish();
                    return i + 8 * task.code;
                }
                hasChild = true;
            }
        }
        return hasChild ? AGAIN : BUSY;
    }

    public int crash() {
        for (int i = 1; i <= PROCESSES; i++) {
            tasks[i].vanish();
        }
        tasks[FIRST_PROCESS].begin(NONE);
        cache.startAnew();
        return 0;
    }

    public int host(int file, int i) {
        if (!isBelow(file, FILES)) {
            return REFUSED;
        }
        if (!disk.isThere(file)) {
            return ABSENT;
        }
        return isBelow(i, disk.lengthOf(file)) ? disk.cellAt(file, i) : END;
    }

    public int log(int i) {
        return isBelow(i, Math.min(disk.operations(), LOG_ENTRIES)) ? disk.entryAt(i) : REFUSED;
    }

    public int cached(int i) {
        return isBelow(i, cache.size()) ? cache.blockAt(i).describe() : REFUSED;
    }

    public int count(int what) {
        switch (what) {
            case 0:
                return disk.operations();
            case 1:
                return openingsThere();
            case 2:
                return tasksThere();
            case 3:
                return cache.dirtyBlocks();
            case 4:
                return disk.leftToFail();
            default:
                return REFUSED;
        }
    }

    /** Whether a number is one of 0 .. limit - 1. */
    private static boolean isBelow(int number, int limit) {
        return number >= 0 && number < limit;
    }

    private boolean isAlive(int process) {
        return isBelow(process, PROCESSES + 1) && tasks[process].state == Task.ALIVE;
    }

    /** The opening that a descriptor is of, or null: whyNoOpening says then what to answer. */
    private Opening openingOf(int process, int descriptor) {
        if (!isAlive(process) || !isBelow(descriptor, DESCRIPTORS)) {
            return null;
        }
        return tasks[process].descriptors[descriptor];
    }

    private int whyNoOpening(int process, int descriptor) {
        return isAlive(process) && isBelow(descriptor, DESCRIPTORS) ? CLOSED : REFUSED;
    }

    private boolean isOpen(int file) {
        for (int i = 0; i < OPENINGS; i++) {
            if (openings[i].isOfFile(file)) {
                return true;
            }
        }
        return false;
    }

    /** The least opening at or above a number that is not there. */
    private int unusedFrom(int number) {
        for (int i = number; i < OPENINGS; i++) {
            if (openings[i].holders == 0) {
                return i;
            }
        }
        return NONE;
    }

    private int openingsThere() {
        int there = 0;
        for (int i = 0; i < OPENINGS; i++) {
            if (openings[i].holders > 0) {
                there++;
            }
        }
        return there;
    }

    private int leastNotThere() {
        for (int i = 1; i <= PROCESSES; i++) {
            if (tasks[i].state == Task.NOT_THERE) {
                return i;
            }
        }
        return NONE;
    }

    private int tasksThere() {
        int there = 0;
        for (int i = 1; i <= PROCESSES; i++) {
            if (tasks[i].state != Task.NOT_THERE) {
                there++;
            }
        }
        return there;
    }

    /** Makes or empties the file as the mode asks; false if the host failed. */
    private boolean readyFile(int file, int mode) {
        if (!disk.isThere(file)) {
            if (!disk.makeFile(file)) {
                return false;
            }
            cache.setLength(file, 0);
        } else if ((mode & IS_EMPTIED) != 0) {
            if (!disk.emptyFile(file)) {
                return false;
            }
            cache.dropFile(file);
            cache.setLength(file, 0);
        }
        return true;
    }

    private int readFile(Opening opening) {
        int position = opening.position;
        if (position >= cache.lengthOf(opening.file)) {
            return END;
        }
        Block block = cache.getBlock(opening.file, position / BLOCK_CELLS);
        if (block == null) {
            return BROKEN;
        }
        opening.position = position + 1;
        return block.cells[position % BLOCK_CELLS];
    }

    private int writeFile(Opening opening, int value) {
        int length = cache.lengthOf(opening.file);
        int position = opening.may(APPENDS) ? length : opening.position;
        if (position >= FILE_CELLS) {
            return FULL;
        }
        Block block = cache.getBlock(opening.file, position / BLOCK_CELLS);
        if (block == null) {
            return BROKEN;
        }
        block.dirty = true;
        block.cells[position % BLOCK_CELLS] = value;
        cache.setLength(opening.file, Math.max(length, position + 1));
        opening.position = position + 1;
        return 1;
    }

    /** The host: its files, the log of its operations, and how many of them are still to fail. */
    private static final class Host {
        private final boolean[] there = new boolean[FILES];
        private final int[] lengths = new int[FILES];
        /** All files' cells, one file behind the other; those at or above a file's length are 0. */
        private final int[] cells = new int[FILES * FILE_CELLS];
        /** The newest entries, in a ring: no call asks for older ones. */
        private final int[] entries = new int[LOG_ENTRIES];
        private int newest = 0;
        private int operations = 0;
        private int leftToFail = 0;

        boolean isThere(int file) {
            return there[file];
        }

        int lengthOf(int file) {
            return lengths[file];
        }

        int cellAt(int file, int i) {
            return cells[file * FILE_CELLS + i];
        }

        int operations() {
            return operations;
        }

        int entryAt(int age) {
            return entries[(newest + LOG_ENTRIES - age) % LOG_ENTRIES];
        }

        int leftToFail() {
            return leftToFail;
        }

        void setToFail(int n) {
            leftToFail = n;
        }

        void place(int file, int length, int first) {
            clear(file);
            there[file] = true;
            lengths[file] = length;
            for (int i = 0; i < length; i++) {
                cells[file * FILE_CELLS + i] = (first + 7 * i) & 255;
            }
        }

        boolean makeFile(int file) {
            if (!succeeds(OP_MAKE, file, 0)) {
                return false;
            }
            clear(file);
            there[file] = true;
            return true;
        }

        boolean emptyFile(int file) {
            if (!succeeds(OP_EMPTY, file, 0)) {
                return false;
            }
            clear(file);
            return true;
        }

        boolean removeFile(int file) {
            if (!succeeds(OP_REMOVE, file, 0)) {
                return false;
            }
            there[file] = false;
            return true;
        }

        boolean readBlock(int file, int number, int[] into) {
            if (!succeeds(OP_READ, file, number)) {
                return false;
            }
            int start = file * FILE_CELLS + number * BLOCK_CELLS;
            System.arraycopy(cells, start, into, 0, BLOCK_CELLS);
            return true;
        }

        /** Takes the cells of a block that lie below a length. */
        boolean writeBlock(int file, int number, int[] from, int length) {
            if (!succeeds(OP_WRITE, file, number)) {
                return false;
            }
            int start = number * BLOCK_CELLS;
            int end = Math.min(start + BLOCK_CELLS, length);
            for (int i = start; i < end; i++) {
                cells[file * FILE_CELLS + i] = from[i - start];
            }
            lengths[file] = Math.max(lengths[file], end);
            return true;
        }

        private void clear(int file) {
            lengths[file] = 0;
            Arrays.fill(cells, file * FILE_CELLS, (file + 1) * FILE_CELLS, 0);
        }

        /** Notes an operation in the log, and says whether it is to be done. */
        private boolean succeeds(int operation, int file, int block) {
            boolean fails = leftToFail > 0;
            int entry = operation + 8 * file + 64 * block;
            newest = (newest + 1) % LOG_ENTRIES;
            entries[newest] = fails ? entry + 256 : entry;
            operations++;
            if (fails) {
                leftToFail--;
            }
            return !fails;
        }
    }

    /** A block of a file as the cache holds it. */
    private static final class Block {
        private int file = 0;
        private int number = 0;
        private boolean dirty = false;
        private final int[] cells = new int[BLOCK_CELLS];

        boolean isOf(int wantedFile, int wantedNumber) {
            return file == wantedFile && number == wantedNumber;
        }

        int describe() {
            return file + 8 * number + (dirty ? 32 : 0);
        }
    }

    /** The blocks in the order of their last use, and the LENGTH that the kernel keeps of each file. */
    private static final class Cache {
        private final Host disk;
        private final int[] lengths = new int[FILES];
        /** The last used one first; those at or behind size are spare, to be filled again. */
        private final Block[] blocks = new Block[CACHE_BLOCKS];
        private int size = 0;

        Cache(Host disk) {
            this.disk = disk;
            for (int i = 0; i < CACHE_BLOCKS; i++) {
                blocks[i] = new Block();
            }
        }

        int lengthOf(int file) {
            return lengths[file];
        }

        void setLength(int file, int length) {
            lengths[file] = length;
        }

        int size() {
            return size;
        }

        Block blockAt(int i) {
            return blocks[i];
        }

        boolean holdsFile(int file) {
            for (int i = 0; i < size; i++) {
                if (blocks[i].file == file) {
                    return true;
                }
            }
            return false;
        }

        int dirtyBlocks() {
            int dirty = 0;
            for (int i = 0; i < size; i++) {
                if (blocks[i].dirty) {
                    dirty++;
                }
            }
            return dirty;
        }

        /** The block, now the last used one; null if the host failed. */
        Block getBlock(int file, int number) {
            int place = find(file, number);
            if (place == NONE) {
                if (!makeRoom() || !bringIn(file, number)) {
                    return null;
                }
                place = size - 1;
            }
            Block block = blocks[place];
            for (int i = place; i > 0; i--) {
                blocks[i] = blocks[i - 1];
            }
            blocks[0] = block;
            return block;
        }

        /** Writes the dirty blocks of a file by number: how many, or BROKEN. */
        int writeFileOut(int file) {
            int written = 0;
            for (int number = 0; number < FILE_BLOCKS; number++) {
                int place = find(file, number);
                if (place != NONE && blocks[place].dirty) {
                    if (!writeOut(blocks[place])) {
                        return BROKEN;
                    }
                    written++;
                }
            }
            return written;
        }

        /** The blocks of a file leave the cache unwritten. */
        void dropFile(int file) {
            int kept = 0;
            for (int i = 0; i < size; i++) {
                Block block = blocks[i];
                if (block.file != file) {
                    blocks[i] = blocks[kept];
                    blocks[kept] = block;
                    kept++;
                }
            }
            size = kept;
        }

        /** All blocks are gone unwritten, and each LENGTH is the host's. */
        void startAnew() {
            size = 0;
            for (int file = 0; file < FILES; file++) {
                lengths[file] = disk.lengthOf(file);
            }
        }

        private int find(int file, int number) {
            for (int i = 0; i < size; i++) {
                if (blocks[i].isOf(file, number)) {
                    return i;
                }
            }
            return NONE;
        }

        private boolean makeRoom() {
            if (size < CACHE_BLOCKS) {
                return true;
            }
            Block oldest = blocks[size - 1];
            if (oldest.dirty && !writeOut(oldest)) {
                return false;
            }
            size--;
            return true;
        }

        /** Fills the first spare block, which there is after makeRoom. */
        private boolean bringIn(int file, int number) {
            Block block = blocks[size];
            if (number * BLOCK_CELLS >= lengths[file]) {
                Arrays.fill(block.cells, 0);
            } else if (!disk.readBlock(file, number, block.cells)) {
                return false;
            }
            block.file = file;
            block.number = number;
            block.dirty = false;
            size++;
            return true;
        }

        private boolean writeOut(Block block) {
            if (!disk.writeBlock(block.file, block.number, block.cells, lengths[block.file])) {
                return false;
            }
            block.dirty = false;
            return true;
        }
    }

    /** Cells on their way from a writing to a reading end. */
    private static final class Pipe {
        private final int[] cells = new int[PIPE_CELLS];
        private int oldest = 0;
        private int held = 0;
        private boolean hasReader = true;
        private boolean hasWriter = true;

        int takeCell() {
            if (held == 0) {
                return hasWriter ? AGAIN : END;
            }
            int cell = cells[oldest];
            oldest = (oldest + 1) % PIPE_CELLS;
            held--;
            return cell;
        }

        int addCell(int value) {
            if (!hasReader) {
                return END;
            }
            if (held == PIPE_CELLS) {
                return AGAIN;
            }
            cells[(oldest + held) % PIPE_CELLS] = value;
            held++;
            return 1;
        }
    }

    /** An opening of a file, or of one end of a pipe; it is there as long as it has holders. */
    private static final class Opening {
        /** How many descriptors are of it. */
        private int holders = 0;
        private int mode = 0;
        private int file = 0;
        private int position = 0;
        /** Null if it is of a file. */
        private Pipe pipe = null;

        void becomeFile(int newFile, int newMode) {
            pipe = null;
            file = newFile;
            mode = newMode;
            position = 0;
        }

        void becomePipeEnd(Pipe newPipe, int newMode) {
            pipe = newPipe;
            mode = newMode;
        }

        boolean may(int use) {
            return (mode & use) != 0;
        }

        boolean isOfFile(int wanted) {
            return holders > 0 && pipe == null && file == wanted;
        }

        void loseHolder() {
            holders--;
            if (holders == 0 && pipe != null) {
                leavePipe(pipe);
            }
        }

        private void leavePipe(Pipe left) {
            if (may(READS)) {
                left.hasReader = false;
            } else {
                left.hasWriter = false;
            }
        }
    }

    /** A process, or a place for one. */
    private static final class Task {
        private static final int NOT_THERE = 0;
        private static final int ALIVE = 1;
        private static final int ENDED = 2;

        private int state = NOT_THERE;
        private int parent = NONE;
        private int code = 0;
        /** Null where a descriptor is free. */
        private final Opening[] descriptors = new Opening[DESCRIPTORS];

        void begin(int newParent) {
            state = ALIVE;
            parent = newParent;
        }

        void finish(int newCode) {
            letGoAll();
            state = ENDED;
            code = newCode;
        }

        void vanish() {
            letGoAll();
            state = NOT_THERE;
        }

        boolean isChildOf(int process) {
            return state != NOT_THERE && parent == process;
        }

        /** The least free descriptor at or above a number. */
        int freeFrom(int number) {
            for (int i = number; i < DESCRIPTORS; i++) {
                if (descriptors[i] == null) {
                    return i;
                }
            }
            return NONE;
        }

        void hold(int descriptor, Opening opening) {
            descriptors[descriptor] = opening;
            opening.holders++;
        }

        void letGo(int descriptor) {
            Opening opening = descriptors[descriptor];
            if (opening != null) {
                descriptors[descriptor] = null;
                opening.loseHolder();
            }
        }

        void shareAllOf(Task other) {
            for (int i = 0; i < DESCRIPTORS; i++) {
                Opening opening = other.descriptors[i];
                if (opening != null) {
                    hold(i, opening);
                }
            }
        }

        private void letGoAll() {
            for (int i = 0; i < DESCRIPTORS; i++) {
                letGo(i);
            }
        }
    }
}
