import java.util.Random;

/**
 * Holds CellEngine against the Model: the code is written while the run is on, so that most instructions fit what
 * stands on the stack, and everything that can be asked is asked on the way. The seeds are fixed.
 */
public final class CellEngineFuzzTest {
    private final Random random;
    private final CellEngine engine = new CellEngine();
    private final Model model = new Model();
    private final long seed;
    static final int[] USED = new int[40];
    static final int[] PRIMITIVES = new int[42];
    static final int[] ENDS = new int[6];

    private CellEngineFuzzTest(long seed) {
        this.seed = seed;
        random = new Random(seed);
    }

    public static void main(String[] args) {
        int seeds = args.length > 0 ? Integer.parseInt(args[0]) : 400;
        int first = args.length > 1 ? Integer.parseInt(args[1]) : 0;
        for (int seed = first; seed < first + seeds; seed++) {
            new CellEngineFuzzTest(seed).play();
        }
        for (int op = 0; op < 40; op++) {
            if (USED[op] == 0) fail("instruction " + op + " was never done");
        }
        for (int p = 0; p < 42; p++) {
            if (PRIMITIVES[p] == 0) fail("primitive " + p + " was never done");
        }
        for (int how = 0; how < 5; how++) {
            if (ENDS[how] == 0) fail("no run ended by " + how);
        }
        if (args.length > 2) {
            System.out.println(java.util.Arrays.toString(USED));
            System.out.println(java.util.Arrays.toString(PRIMITIVES));
            System.out.println(java.util.Arrays.toString(ENDS));
        }
        System.out.println("engine and model agree");
    }

    private static void fail(String text) {
        System.out.println(text);
        System.exit(1);
    }

    private void due(String call, long got, long want) {
        if (got != want) fail("seed " + seed + ": " + call + " answered " + got + ", the model " + want);
    }

    private void due(String call, boolean got, boolean want) {
        due(call, got ? 1 : 0, want ? 1 : 0);
    }

    private int below(int n) { return random.nextInt(n); }

    private boolean oneIn(int n) { return random.nextInt(n) == 0; }

    private void play() {
        makeConstants();
        boolean tight = oneIn(2);
        if (tight) newLimits();
        for (int turn = 0; turn < 1500; turn++) {
            if (model.status != 5) begin();
            int op = write();
            int before = model.done;
            step(oneIn(20) ? below(30) : 1);
            if (model.done > before && op >= 0) USED[op]++;
            if (oneIn(3)) ask();
            if (oneIn(40)) disturb(tight);
            compareCounts();
        }
    }

    private void makeConstants() {
        for (int k = 0; k < 4; k++) {
            int n = below(12);
            byte[] bytes = new byte[n];
            for (int i = 0; i < n; i++) {
                bytes[i] = (byte) (oneIn(2) ? 1 + below(255) : 'a' + below(2));
                due("put", engine.put(bytes[i] & 255), i + 1);
            }
            model.constants.add(bytes);
            due("constant", engine.constant(), k);
        }
    }

    private void begin() {
        int place = oneIn(10) && model.code.size() > 0 ? below(model.code.size()) : model.code.size();
        int fuel = below(40);
        due("start", engine.start(place, fuel), model.start(place, fuel));
    }

    private void step(int n) {
        int want = model.step(n);
        due("step", engine.step(n), want);
        if (want >= 0) ENDS[want]++;
    }

    private void word(int word) {
        model.code.add(word);
        due("code", engine.code(word), model.code.size());
    }

    /** Writes an instruction where the run goes on, if that is the end of the code or shortly behind it. */
    private int write() {
        int gap = model.place - model.code.size();
        if (gap < 0 || gap > 100) return -1;
        for (int i = 0; i < gap; i++) word(0);
        if (oneIn(150)) {
            word(below(45) - 2);
            if (oneIn(2)) word(below(10) - 2);
            return -1;
        }
        int op = fitting();
        word(op);
        operands(op);
        return op;
    }

    private int kindAt(int below) {
        java.util.List<Object> stack = model.top().stack;
        return stack.size() > below ? Model.kindOf(stack.get(stack.size() - 1 - below)) : -2;
    }

    private int fitting() {
        int top = kindAt(0);
        int second = kindAt(1);
        for (int turn = oneIn(3) ? 0 : 40; turn < 40; turn++) {
            if (choosePrimitive()) return 34;
        }
        for (int turn = 0; turn < 200; turn++) {
            int op = below(40);
            if (fits(op, top, second) && !(op == 0 && !oneIn(20)) && !(op == 28 && !oneIn(4))) return op;
        }
        return 1;
    }

    private boolean fits(int op, int top, int second) {
        switch (op) {
            case 3: return model.top().locals.size() > 0;
            case 5: return model.top().closure != null && model.top().closure.parts.size() > 0;
            case 0: case 7: case 8: case 9: case 10: case 12: case 23: return top >= 0 && (op != 8 || oneIn(3));
            case 4: return top >= 0 && model.top().locals.size() > 0;
            case 11: return top == 2;
            case 13: return top == 3 || top == 7;
            case 14: return top == 0 && oneIn(8) || top == 3;
            case 16: return top >= 0 && second == 4 && ((Model.Obj) stackValue(1)).parts.size() > 0;
            case 17: return top >= 0 && second == 4;
            case 18: return top >= 0 && second == 4 && (!model.handled() || oneIn(10));
            case 19: return top >= 0 && (model.frames.size() > 1 && !model.handled() || oneIn(30));
            case 21: case 22: return top == 0;
            case 24: return top == 5;
            case 25: return top >= 0 && second == 5;
            case 26: return oneIn(3);
            case 27: return model.handled() && oneIn(3);
            case 28: return top == 1 || top == 7;
            case 30: return top >= 0 && second == 1;
            case 31: return top == 7 || top == 1 && oneIn(8);
            case 32: case 33: case 39: return second >= 0;
            case 34: return choosePrimitive();
            case 35: case 36: case 38: return oneIn(3);
            case 37: return oneIn(10);
            default: return true;
        }
    }

    private Object stackValue(int below) {
        java.util.List<Object> stack = model.top().stack;
        return stack.get(stack.size() - 1 - below);
    }

    private int primitive;

    private boolean choosePrimitive() {
        primitive = below(42);
        int a = kindAt(0);
        int b = kindAt(1);
        int c = kindAt(2);
        if (primitive == 3 || primitive == 4 || primitive == 23 || primitive == 26) return a == 0;
        if (primitive <= 26) return a == 0 && b == 0;
        switch (primitive) {
            case 29: return a == 0 && ((Integer) stackValue(0) >= 0 && (Integer) stackValue(0) <= 255 || oneIn(20));
            case 38: case 39: return a == 0;
            case 28: case 37: case 41: return a == 6;
            case 40: return a == 3 || a == 0 && (Integer) stackValue(0) == 0;
            case 30: return a == 0 && b == 0 && c == 6;
            case 31: return a == 0 && b == 6;
            default: return a == 6 && b == 6;
        }
    }

    private static final int[] EDGES = {0, 1, -1, 2, 255, 256, 31, 32, 33, 65535, 65536, 0x7fffffff, 0x80000000, 0x80000001};

    private int scalar() {
        return oneIn(3) ? EDGES[below(EDGES.length)] : oneIn(4) ? random.nextInt() : below(8) - 2;
    }

    private int globalNumber() {
        return oneIn(60) ? (oneIn(2) ? 2048 : -1) : oneIn(10) ? 2047 : below(14);
    }

    private int index(int n) {
        return oneIn(60) ? (oneIn(2) ? n : -1) : n == 0 ? 0 : below(n);
    }

    private void operands(int op) {
        int size = model.code.size();
        switch (op) {
            case 1: word(scalar()); break;
            case 2: word(index(4)); break;
            case 3: case 4: word(index(model.top().locals.size())); break;
            case 5: word(index(model.top().closure.parts.size())); break;
            case 6: word(globalNumber()); break;
            case 7: word(kindAt(0) == 1 ? 2 + below(5) : globalNumber() < 2 || kindAt(0) >= 0 ? 7 + below(8) : globalNumber()); break;
            case 10: { int h = model.top().stack.size(); word(oneIn(60) ? below(300) : 1 + below(Math.min(h, 4))); break; }
            case 11: word(index(((Model.Obj) stackValue(0)).parts.size())); break;
            case 12: word(oneIn(2) ? 1 : scalar()); break;
            case 15: word(oneIn(20) ? scalar() : size + 2 + below(40)); word(oneIn(60) ? below(5000) - 10 : below(Math.min(4, model.top().stack.size() + 1))); break;
            case 16: word(index(((Model.Obj) stackValue(1)).parts.size())); break;
            case 20: case 21: word(oneIn(10) ? below(size + 5) - 2 : size + 1); break;
            case 22: { int n = oneIn(40) ? 256 - below(3) * 128 : below(4); word(n); for (int i = 0; i <= n; i++) word(size + n + 2); break; }
            case 26: word(oneIn(20) ? below(size + 5) - 2 : size + 1 + below(30)); break;
            case 29: word(oneIn(40) ? 65536 : oneIn(40) ? -1 : below(65536)); break;
            case 34: word(primitive); PRIMITIVES[primitive]++; break;
            case 36: word(oneIn(40) ? -1 : below(10)); break;
            case 37: word(oneIn(30) ? 16383 + below(2) : below(6)); break;
            case 38: word(below(7) - 2); break;
            default: break;
        }
    }

    private long path() {
        long path = 0;
        int n = below(4);
        for (int k = 0; k < n; k++) path |= (long) (1 + below(3)) << 8 * k;
        return path;
    }

    private int start() {
        return oneIn(30) ? (oneIn(2) ? -2 : 2048) : oneIn(8) ? -1 : oneIn(10) ? 2047 : below(16);
    }

    private void ask() {
        int i = start();
        long path = path();
        for (int what = 0; what <= 2; what++) due("look", engine.look(i, path, what), model.look(i, path, what));
        int k = below(10) - 1;
        due("byteOf", engine.byteOf(i, path, k), model.byteOf(i, path, k));
        int j = start();
        long other = path();
        due("same", engine.same(i, path, j, other), model.same(i, path, j, other));
        due("out", engine.out(k), k >= 0 && k < model.output.size() ? model.output.get(k) : -1);
        if (oneIn(4)) due("reached", engine.reached(), model.reached());
    }

    private void disturb(boolean tight) {
        switch (below(6)) {
            case 0: if (oneIn(3)) due("save", engine.save(), model.save()); break;
            case 1: if (oneIn(3)) due("restore", engine.restore(), model.restore()); break;
            case 2: if (tight) newLimits(); break;
            case 3: due("collect", engine.collect(1 + below(60)), true); break;
            case 4: due("collect", engine.collect(oneIn(2) ? 1 : 1000000), true); break;
            default: if (model.status != 5 && oneIn(2)) {
                int size = below(model.code.size() + 1);
                due("cut", engine.cut(size), size);
                while (model.code.size() > size) model.code.remove(model.code.size() - 1);
            } else if (model.status == 5) {
                due("cut", engine.cut(0), -1);
            }
        }
    }

    private void newLimits() {
        model.reachedLimit = below(150);
        model.madeLimit = below(200);
        model.depthLimit = below(30);
        due("limits", engine.limits(model.reachedLimit, model.madeLimit, model.depthLimit), true);
    }

    private void compareCounts() {
        for (int what = -1; what <= 12; what++) due("count(" + what + ")", engine.count(what), model.count(what, true));
    }
}
