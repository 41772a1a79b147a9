import java.util.ArrayList;
import java.util.HashSet;
import java.util.List;
import java.util.Set;
import java.util.TreeMap;

/**
 * The document told a second time, for comparison: nothing is counted along the way, everything is
 * looked up anew, and a failed operation leaves a call by an exception.
 */
final class Model implements Kernel {
    private static final class Broken extends RuntimeException {
        private static final long serialVersionUID = 1L;
    }

    private record Block(int file, int number, int[] cells, boolean[] dirty) {
    }

    private static final class Opening {
        int file = -1;
        int mode;
        int position;
        List<Integer> pipe;
    }

    private static final class Proc {
        final int parent;
        final Opening[] descriptors = new Opening[6];

        Proc(int parent) {
            this.parent = parent;
        }
    }

    private record Ended(int parent, int code) {
    }

    private final TreeMap<Integer, List<Integer>> hostFiles = new TreeMap<>();
    private final TreeMap<Integer, Integer> lengths = new TreeMap<>();
    private final TreeMap<Integer, Integer> policies = new TreeMap<>();
    private final List<Integer> log = new ArrayList<>();
    /** The last used one at the end. */
    private final List<Block> cache = new ArrayList<>();
    private final TreeMap<Integer, Proc> alive = new TreeMap<>();
    private final TreeMap<Integer, Ended> ended = new TreeMap<>();
    private int toFail = 0;

    Model() {
        alive.put(1, new Proc(0));
    }

    @Override
    public int answer(String call, int[] n) {
        try {
            return switch (call) {
                case "put" -> place(n[0], n[1], n[2]);
                case "policy" -> setPolicy(n[0], n[1]);
                case "failing" -> setFailing(n[0]);
                case "crash" -> fall();
                case "host" -> hostCell(n[0], n[1]);
                case "log" -> n[0] < 0 || n[0] > 15 || n[0] >= log.size() ? -1 : log.get(log.size() - 1 - n[0]);
                case "cached" -> n[0] < 0 || n[0] >= cache.size() ? -1 : shown(cache.get(cache.size() - 1 - n[0]));
                case "count" -> number(n[0]);
                default -> alive.containsKey(n[0]) ? ofProcess(call, n, alive.get(n[0])) : -1;
            };
        } catch (Broken e) {
            return -8;
        }
    }

    private int ofProcess(String call, int[] n, Proc p) {
        return switch (call) {
            case "open" -> outside(n[1], 7) || outside(n[2], 31) ? -1 : openFile(p, n[1], n[2]);
            case "pipe" -> makePipe(p);
            case "unlink" -> outside(n[1], 7) ? -1 : remove(n[1]);
            case "fork" -> split(n[0], p);
            case "exit" -> n[0] == 1 || outside(n[1], 99) ? -1 : end(n[0], n[1]);
            case "wait" -> await(n[0]);
            default -> ofDescriptor(call, n, p);
        };
    }

    private int ofDescriptor(String call, int[] n, Proc p) {
        if (outside(n[1], 5) || call.equals("write") && outside(n[2], 255) || call.equals("seek") && outside(n[2], 32)) {
            return -1;
        }
        Opening o = p.descriptors[n[1]];
        if (o == null) {
            return -3;
        }
        switch (call) {
            case "dup":
                return give(p, o);
            case "close":
                p.descriptors[n[1]] = null;
                return 0;
            case "read":
                return (o.mode & 1) == 0 ? -3 : o.file < 0 ? fromPipe(o) : fromFile(o);
            case "write":
                return (o.mode & 2) == 0 ? -3 : o.file < 0 ? intoPipe(o, n[2]) : intoFile(o, n[2]);
            case "seek":
                if (o.file < 0) {
                    return -3;
                }
                if (n[2] > lengths.get(o.file)) {
                    return -1;
                }
                return o.position = n[2];
            default:
                return o.file < 0 ? -3 : flush(o.file);
        }
    }

    private static boolean outside(int number, int most) {
        return number < 0 || number > most;
    }

    private Set<Opening> openings() {
        Set<Opening> all = new HashSet<>();
        for (Proc p : alive.values()) {
            for (Opening o : p.descriptors) {
                if (o != null) {
                    all.add(o);
                }
            }
        }
        return all;
    }

    private boolean isOpen(int file) {
        return openings().stream().anyMatch(o -> o.file == file);
    }

    private int policyOf(int file) {
        return policies.getOrDefault(file, 2);
    }

    private static int free(Proc p) {
        for (int i = 0; i < 6; i++) {
            if (p.descriptors[i] == null) {
                return i;
            }
        }
        return -2;
    }

    private static int give(Proc p, Opening o) {
        int at = free(p);
        if (at >= 0) {
            p.descriptors[at] = o;
        }
        return at;
    }

    private void operate(int operation, int file, int block) {
        boolean fails = toFail > 0;
        log.add(operation + 8 * file + 64 * block + (fails ? 256 : 0));
        if (fails) {
            toFail--;
            throw new Broken();
        }
    }

    private int place(int file, int length, int first) {
        if (outside(file, 7) || outside(length, 32)) {
            return -1;
        }
        if (isOpen(file) || cache.stream().anyMatch(b -> b.file == file)) {
            return -9;
        }
        List<Integer> cells = new ArrayList<>();
        for (int i = 0; i < length; i++) {
            cells.add(Math.floorMod(first + 7L * i, 256));
        }
        hostFiles.put(file, cells);
        lengths.put(file, length);
        return 0;
    }

    private int setPolicy(int file, int policy) {
        if (outside(file, 7) || outside(policy, 2)) {
            return -1;
        }
        policies.put(file, policy);
        return 0;
    }

    private int setFailing(int n) {
        if (outside(n, 9)) {
            return -1;
        }
        toFail = n;
        return 0;
    }

    private int fall() {
        alive.clear();
        ended.clear();
        cache.clear();
        alive.put(1, new Proc(0));
        hostFiles.forEach((file, cells) -> lengths.put(file, cells.size()));
        return 0;
    }

    private int hostCell(int file, int i) {
        if (outside(file, 7)) {
            return -1;
        }
        List<Integer> cells = hostFiles.get(file);
        return cells == null ? -4 : i < 0 || i >= cells.size() ? -7 : cells.get(i);
    }

    private static int shown(Block b) {
        return b.file + 8 * b.number + (b.dirty[0] ? 32 : 0);
    }

    private int number(int what) {
        return switch (what) {
            case 0 -> log.size();
            case 1 -> openings().size();
            case 2 -> alive.size() + ended.size();
            case 3 -> (int) cache.stream().filter(b -> b.dirty[0]).count();
            case 4 -> toFail;
            default -> -1;
        };
    }

    private int openFile(Proc p, int file, int mode) {
        boolean there = hostFiles.containsKey(file);
        if (policyOf(file) == 0 || !there && (mode & 8) == 0) {
            return -4;
        }
        if (policyOf(file) == 1 && mode > 1) {
            return -5;
        }
        if (free(p) < 0 || openings().size() >= 16) {
            return -2;
        }
        if (!there || (mode & 16) != 0) {
            operate(there ? 3 : 2, file, 0);
            hostFiles.put(file, new ArrayList<>());
            lengths.put(file, 0);
            cache.removeIf(b -> b.file == file);
        }
        Opening o = new Opening();
        o.file = file;
        o.mode = mode;
        return give(p, o);
    }

    private int makePipe(Proc p) {
        int none = 0;
        for (Opening o : p.descriptors) {
            none += o == null ? 1 : 0;
        }
        if (none < 2 || openings().size() > 14) {
            return -2;
        }
        List<Integer> cells = new ArrayList<>();
        int answer = 0;
        for (int mode = 1; mode <= 2; mode++) {
            Opening o = new Opening();
            o.mode = mode;
            o.pipe = cells;
            answer += give(p, o) * (mode == 1 ? 1 : 8);
        }
        return answer;
    }

    private boolean hasEnd(List<Integer> pipe, int mode) {
        return openings().stream().anyMatch(o -> o.pipe == pipe && o.mode == mode);
    }

    private int fromPipe(Opening o) {
        if (!o.pipe.isEmpty()) {
            return o.pipe.remove(0);
        }
        return hasEnd(o.pipe, 2) ? -6 : -7;
    }

    private int intoPipe(Opening o, int value) {
        if (!hasEnd(o.pipe, 1)) {
            return -7;
        }
        if (o.pipe.size() == 4) {
            return -6;
        }
        o.pipe.add(value);
        return 1;
    }

    private int fromFile(Opening o) {
        if (o.position >= lengths.get(o.file)) {
            return -7;
        }
        Block b = get(o.file, o.position >> 3);
        return b.cells[o.position++ & 7];
    }

    private int intoFile(Opening o, int value) {
        int position = (o.mode & 4) != 0 ? lengths.get(o.file) : o.position;
        if (position == 32) {
            return -2;
        }
        Block b = get(o.file, position >> 3);
        b.dirty[0] = true;
        b.cells[position & 7] = value;
        lengths.merge(o.file, position + 1, Math::max);
        o.position = position + 1;
        return 1;
    }

    private Block get(int file, int number) {
        Block found = null;
        for (Block b : cache) {
            if (b.file == file && b.number == number) {
                found = b;
            }
        }
        if (found != null) {
            cache.remove(found);
        } else {
            if (cache.size() == 5) {
                if (cache.get(0).dirty[0]) {
                    put(cache.get(0));
                }
                cache.remove(0);
            }
            found = new Block(file, number, new int[8], new boolean[1]);
            if (number * 8 < lengths.get(file)) {
                operate(0, file, number);
                List<Integer> cells = hostFiles.get(file);
                for (int i = 0; i < 8 && number * 8 + i < cells.size(); i++) {
                    found.cells[i] = cells.get(number * 8 + i);
                }
            }
        }
        cache.add(found);
        return found;
    }

    private void put(Block b) {
        operate(1, b.file, b.number);
        List<Integer> cells = hostFiles.get(b.file);
        for (int i = 0; i < 8 && b.number * 8 + i < lengths.get(b.file); i++) {
            while (cells.size() <= b.number * 8 + i) {
                cells.add(0);
            }
            cells.set(b.number * 8 + i, b.cells[i]);
        }
        b.dirty[0] = false;
    }

    private int flush(int file) {
        int written = 0;
        for (int number = 0; number < 4; number++) {
            for (Block b : cache) {
                if (b.file == file && b.number == number && b.dirty[0]) {
                    put(b);
                    written++;
                }
            }
        }
        return written;
    }

    private int remove(int file) {
        if (policyOf(file) == 0 || !hostFiles.containsKey(file)) {
            return -4;
        }
        if (policyOf(file) == 1) {
            return -5;
        }
        if (isOpen(file)) {
            return -9;
        }
        operate(4, file, 0);
        hostFiles.remove(file);
        cache.removeIf(b -> b.file == file);
        return 0;
    }

    private int split(int process, Proc p) {
        for (int i = 2; i <= 6; i++) {
            if (!alive.containsKey(i) && !ended.containsKey(i)) {
                Proc child = new Proc(process);
                System.arraycopy(p.descriptors, 0, child.descriptors, 0, 6);
                alive.put(i, child);
                return i;
            }
        }
        return -2;
    }

    private int end(int process, int code) {
        ended.put(process, new Ended(alive.remove(process).parent, code));
        ended.replaceAll((i, e) -> e.parent == process ? new Ended(1, e.code) : e);
        alive.replaceAll((i, p) -> p.parent == process ? moved(p) : p);
        return 0;
    }

    private static Proc moved(Proc p) {
        Proc same = new Proc(1);
        System.arraycopy(p.descriptors, 0, same.descriptors, 0, 6);
        return same;
    }

    private int await(int process) {
        for (int i = 2; i <= 6; i++) {
            if (ended.containsKey(i) && ended.get(i).parent == process) {
                return i + 8 * ended.remove(i).code;
            }
        }
        return alive.values().stream().anyMatch(p -> p.parent == process) ? -6 : -9;
    }
}
