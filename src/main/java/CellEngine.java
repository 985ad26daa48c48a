import java.util.Arrays;

/**
 * A machine that runs code of forty instructions on cells of its own.
 * What it promises stands in the document; this class only hands each call to the part that answers it.
 */
public final class CellEngine {
    public static final int NONE = -1;
    public static final int FULL = -2;

    private final Program program;
    private final Heap heap;
    private final Output output;
    private final Machine machine;

    public CellEngine() {
        Stacks stacks = new Stacks();
        program = new Program();
        output = new Output();
        heap = new Heap(stacks);
        machine = new Machine(program, stacks, heap, output);
    }

    public int code(int word) {
        return program.append(word);
    }

    public int cut(int size) {
        return machine.status == Status.ON ? NONE : program.shorten(size);
    }

    public int put(long eight) {
        return program.addBytes(eight);
    }

    public int constant() {
        return program.endConstant();
    }

    public boolean start(int place, int fuel) {
        if (place < 0 || fuel < 0 || fuel > Machine.MOST_FUEL) {
            return false;
        }
        output.size = 0;
        machine.begin(place, fuel);
        return true;
    }

    public int step(int n) {
        if (n < 0 || n > Machine.MOST_STEPS || machine.status == Status.NOT_BEGUN) {
            return NONE;
        }
        return machine.advance(n);
    }

    public int look(int i, long path, int what) {
        long value = heap.find(i, path);
        if (value == Value.NOWHERE) {
            return NONE;
        }
        switch (what) {
            case 0: return Value.kind(value);
            case 1: return heap.told(value);
            case 2: return heap.parts(value);
            default: return NONE;
        }
    }

    public int byteOf(int i, long path, int k) {
        long value = heap.find(i, path);
        if (value == Value.NOWHERE || Value.kind(value) != Value.STRING || k < 0 || k >= heap.told(value)) {
            return NONE;
        }
        return heap.byteAt(Value.number(value), k);
    }

    public boolean same(int i, long path, int j, long other) {
        long value = heap.find(i, path);
        return value != Value.NOWHERE && value == heap.find(j, other);
    }

    public int out(int k) {
        return k < 0 || k >= output.size ? NONE : output.bytes[k] & 255;
    }

    public boolean limits(int reached, int made, int depth) {
        if (reached < 0 || reached > Heap.MOST_CELLS || made < 0 || depth < 0) {
            return false;
        }
        heap.limit = reached;
        heap.madeLimit = made;
        machine.depthLimit = depth;
        return true;
    }

    public boolean collect(int every) {
        if (every < 1 || every > Heap.MOST_EVERY) {
            return false;
        }
        heap.every = every;
        return true;
    }

    public int reached() {
        heap.gather(0, machine.status == Status.ON);
        return heap.reachedInAll;
    }

    public int save() {
        machine.forget();
        return heap.keep();
    }

    public int restore() {
        machine.forget();
        return heap.bringBack();
    }

    public int count(int what) {
        switch (what) {
            case 0: return program.size;
            case 1: return program.constants;
            case 4: return heap.made;
            case 9: return output.size;
            default: return machine.number(what);
        }
    }

    /** The new length of a row: rows grow by doubling, so that all the rows that are ever made are few and small. */
    private static int longer(int length, int needed, int most) {
        return Math.min(most, Math.max(needed, 2 * length));
    }

    /** How a run stands: what step() answers. */
    private static final class Status {
        static final int NOT_BEGUN = -1;
        static final int STOPPED = 0;
        static final int RAISED = 1;
        static final int NO_FUEL = 2;
        static final int NO_ROOM = 3;
        static final int FAULT = 4;
        static final int ON = 5;
        /** A primitive answers RAISES + g when global g is to be raised. */
        static final int RAISES = 16;

        static boolean isDone(int outcome) {
            return outcome == ON || outcome == STOPPED || outcome == RAISED;
        }
    }

    /**
     * A value is one long, so that two values are the same exactly when their longs are: the kind in the three
     * lowest bits, above it an int (a scalar, the number that tells a name, an object's address), and above that,
     * for a name, which one it is. The head of an object has the kind, an int (tag, place, length) and how many
     * parts there are in the same places; the head of a packet is its name with the packet's kind.
     */
    private static final class Value {
        static final int SCALAR = 0;
        static final int NAME = 1;
        static final int RECORD = 2;
        static final int CONSTRUCTED = 3;
        static final int CLOSURE = 4;
        static final int REFERENCE = 5;
        static final int STRING = 6;
        static final int PACKET = 7;
        static final int KIND_MASK = 7;
        static final int COUNT_SHIFT = 35;
        /** No value: a scalar's long never has this bit alone. */
        static final long NOWHERE = 0x8000000000000000L;

        static int kind(long value) {
            return (int) value & KIND_MASK;
        }

        static int number(long value) {
            return (int) (value >> 3);
        }

        static long scalar(int n) {
            return (long) n << 3;
        }

        static long truth(boolean holds) {
            return holds ? 8L : 0L;
        }

        static long object(int kind, int address) {
            return (long) address << 3 | kind;
        }

        static long head(int kind, int number, int count) {
            return (long) count << COUNT_SHIFT | (number & 0xFFFFFFFFL) << 3 | kind;
        }

        static long withKind(long value, int kind) {
            return value & ~(long) KIND_MASK | kind;
        }

        static int cellsOfString(int length) {
            return 1 + (length + 3) / 4;
        }
    }

    /** The code and the constants. */
    private static final class Program {
        static final int MOST_WORDS = 262144;
        static final int MOST_CONSTANTS = 1024;
        static final int MOST_BYTES = 65536;
        static final int MOST_OPEN = 4096;

        int[] words = new int[128];
        int size;
        byte[] bytes = new byte[64];
        /** ends[k] is where constant k ends in bytes; the next constant's bytes stand behind the last one. */
        int[] ends = new int[16];
        int constants;
        int closed;
        int open;

        int append(int word) {
            if (size >= MOST_WORDS) {
                return FULL;
            }
            if (size >= words.length) {
                words = Arrays.copyOf(words, longer(words.length, size + 1, MOST_WORDS));
            }
            words[size++] = word;
            return size;
        }

        int shorten(int newSize) {
            if (newSize < 0 || newSize > size) {
                return NONE;
            }
            size = newSize;
            return size;
        }

        int addBytes(long eight) {
            int n = bytesBeforeZero(eight);
            if (open + n > MOST_OPEN) {
                return FULL;
            }
            int needed = closed + open + n;
            if (needed > bytes.length) {
                bytes = Arrays.copyOf(bytes, longer(bytes.length, needed, MOST_BYTES + MOST_OPEN));
            }
            for (int k = 0; k < n; k++) {
                bytes[closed + open + k] = (byte) (eight >>> 8 * k);
            }
            open += n;
            return open;
        }

        private int bytesBeforeZero(long eight) {
            for (int k = 0; k < 8; k++) {
                if ((eight >>> 8 * k & 255) == 0) {
                    return k;
                }
            }
            return 8;
        }

        int endConstant() {
            if (constants >= MOST_CONSTANTS || closed + open > MOST_BYTES) {
                return FULL;
            }
            if (constants >= ends.length) {
                ends = Arrays.copyOf(ends, longer(ends.length, constants + 1, MOST_CONSTANTS));
            }
            closed += open;
            open = 0;
            ends[constants] = closed;
            return constants++;
        }

        int beginOf(int constant) {
            return constant == 0 ? 0 : ends[constant - 1];
        }
    }

    /** The output since the last start(). */
    private static final class Output {
        static final int MOST_KEPT = 65536;

        byte[] bytes = new byte[64];
        int size;

        /** How many of n bytes more will be kept; afterwards there is space for them. */
        int accept(int n) {
            int kept = Math.min(n, MOST_KEPT - size);
            if (size + kept > bytes.length) {
                bytes = Arrays.copyOf(bytes, longer(bytes.length, size + kept, MOST_KEPT));
            }
            return kept;
        }

        void add(int b) {
            if (size < bytes.length) {
                bytes[size++] = (byte) b;
            }
        }
    }

    /**
     * The frames with their locals and stacks, and the handlers. All locals and stacks stand in one row, frame
     * behind frame, in each the locals first: so top is how many there are.
     */
    private static final class Stacks {
        static final int MOST_VALUES = 65536;
        static final int MOST_FRAMES = 8192;
        static final int MOST_HANDLERS = 1024;

        long[] values = new long[128];
        int top;
        /** Where a frame's locals begin, where its stack begins, and where the one below it goes on. */
        int[] bases = new int[16];
        int[] floors = new int[16];
        int[] returns = new int[16];
        long[] closures = new long[16];
        int frames;
        int[] handlerFrames = new int[16];
        int[] handlerPlaces = new int[16];
        int[] handlerHeights = new int[16];
        int[] handlerDepths = new int[16];
        int handlers;

        void begin() {
            clear();
            frames = 1;
            bases[0] = 0;
            floors[0] = 0;
            returns[0] = 0;
            closures[0] = 0;
        }

        void clear() {
            top = 0;
            frames = 0;
            handlers = 0;
        }

        int height() {
            return top - floors[frames - 1];
        }

        int locals() {
            return floors[frames - 1] - bases[frames - 1];
        }

        boolean isFull() {
            return top >= MOST_VALUES;
        }

        long closure() {
            return closures[frames - 1];
        }

        /** The value that stands so far below the top one. */
        long peek(int below) {
            return values[top - 1 - below];
        }

        int push(long value) {
            if (isFull()) {
                return Status.NO_ROOM;
            }
            if (top >= values.length) {
                widen(top + 1);
            }
            values[top++] = value;
            return Status.ON;
        }

        /** Puts a value in the place of some, which are one at least. */
        int replace(int taken, long value) {
            top -= taken;
            values[top++] = value;
            return Status.ON;
        }

        private void widen(int needed) {
            values = Arrays.copyOf(values, longer(values.length, needed, MOST_VALUES));
        }

        int local(int i) {
            return i < 0 || i >= locals() ? Status.FAULT : push(values[bases[frames - 1] + i]);
        }

        int store(int i) {
            if (i < 0 || i >= locals()) {
                return Status.FAULT;
            }
            values[bases[frames - 1] + i] = peek(0);
            top--;
            return Status.ON;
        }

        int drop() {
            top--;
            return Status.ON;
        }

        int swap() {
            long upper = values[top - 1];
            values[top - 1] = values[top - 2];
            values[top - 2] = upper;
            return Status.ON;
        }

        int setLocals(int n) {
            if (n < 0 || n > 16383) {
                return Status.FAULT;
            }
            int base = bases[frames - 1];
            int end = base + n;
            if (end > MOST_VALUES) {
                return Status.NO_ROOM;
            }
            if (end > values.length) {
                widen(end);
            }
            for (int i = floors[frames - 1]; i < end; i++) {
                values[i] = 0;
            }
            floors[frames - 1] = end;
            top = end;
            return Status.ON;
        }

        boolean hasHandler() {
            return handlers > 0 && handlerFrames[handlers - 1] == frames - 1;
        }

        /** A frame for the closure and the argument on top, or none where there are too many. */
        int enter(int back) {
            if (frames >= MOST_FRAMES) {
                return Status.NO_ROOM;
            }
            if (frames >= bases.length) {
                widenFrames();
            }
            long argument = peek(0);
            closures[frames] = peek(1);
            replace(2, argument);
            bases[frames] = top - 1;
            floors[frames] = top;
            returns[frames] = back;
            frames++;
            return Status.ON;
        }

        private void widenFrames() {
            int length = longer(bases.length, frames + 1, MOST_FRAMES);
            bases = Arrays.copyOf(bases, length);
            floors = Arrays.copyOf(floors, length);
            returns = Arrays.copyOf(returns, length);
            closures = Arrays.copyOf(closures, length);
        }

        /** The top frame becomes one of the closure and the argument on top. */
        void become() {
            long argument = peek(0);
            closures[frames - 1] = peek(1);
            top = bases[frames - 1];
            values[top++] = argument;
            floors[frames - 1] = top;
        }

        /** The top frame goes, its top value is put on the stack below: where that frame goes on. */
        int leave() {
            long value = peek(0);
            frames--;
            top = bases[frames];
            values[top++] = value;
            return returns[frames];
        }

        int addHandler(int place, int depth) {
            if (handlers >= MOST_HANDLERS) {
                return Status.NO_ROOM;
            }
            if (handlers >= handlerFrames.length) {
                widenHandlers();
            }
            handlerFrames[handlers] = frames - 1;
            handlerPlaces[handlers] = place;
            handlerHeights[handlers] = height();
            handlerDepths[handlers] = depth;
            handlers++;
            return Status.ON;
        }

        private void widenHandlers() {
            int length = longer(handlerFrames.length, handlers + 1, MOST_HANDLERS);
            handlerFrames = Arrays.copyOf(handlerFrames, length);
            handlerPlaces = Arrays.copyOf(handlerPlaces, length);
            handlerHeights = Arrays.copyOf(handlerHeights, length);
            handlerDepths = Arrays.copyOf(handlerDepths, length);
        }

        /**
         * Goes back to the newest handler's frame and puts what is raised there; false, and nothing is done, when
         * its stack has become lower than the handler saw it. The handler itself stays readable behind the last one.
         */
        boolean unwind(long raised, int taken) {
            int frame = handlerFrames[handlers - 1];
            int end = frame == frames - 1 ? top - taken : bases[frame + 1];
            int newTop = floors[frame] + handlerHeights[handlers - 1];
            if (newTop > end) {
                return false;
            }
            handlers--;
            frames = frame + 1;
            top = newTop;
            values[top++] = raised;
            return true;
        }
    }

    /**
     * The cells. Objects stand one behind the other; going through them moves those that are reached together, by
     * way of a second row, so that the cells in use are then the cells reached. To go through all is dear when much
     * is reached, so the newest are gone through alone at first, as if all the others were reached still.
     */
    private static final class Heap {
        static final int MOST_CELLS = 131072;
        static final int MOST_EVERY = 1000000;
        static final int GLOBALS = 2048;
        /** The last result stands behind the globals in their row. */
        static final int RESULT = GLOBALS;
        /** So many new cells that are reached are moved again and again before they count as old. */
        static final int MOST_YOUNG = 1024;

        final Stacks stacks;
        final long[] globals = new long[GLOBALS + 1];
        /** The globals from here on were never anything but 0, so nobody need go through them. */
        int globalsUsed;
        long[] cells = new long[512];
        int used;
        long[] spare = new long[0];
        int spareUsed;
        /** The cells before this one are old. */
        int old;
        /** Whether an old object may lead to a newer one, which the newest alone do not show. */
        boolean oldLeadsToNew;
        int limit = 65536;
        int every = MOST_EVERY;
        int fresh;
        int made;
        int madeLimit = 1000000;
        int reachedFromGlobals;
        int reachedInAll;
        final long[] keptGlobals = new long[GLOBALS];
        int keptGlobalsUsed;
        long[] keptCells = new long[0];
        int kept;

        Heap(Stacks stacks) {
            this.stacks = stacks;
        }

        void setGlobal(int i, long value) {
            globals[i] = value;
            globalsUsed = Math.max(globalsUsed, i + 1);
        }

        /**
         * Whether there is room for a new object of so many cells, so many of which count as made. Objects may have
         * moved afterwards: values are to be read behind this call.
         */
        boolean ask(int size, int counted) {
            if (counted > 0 && (long) made + counted > madeLimit) {
                return false;
            }
            if (fresh >= every || used + size > limit) {
                gather(oldLeadsToNew ? 0 : old, true);
            }
            if (used + size > limit) {
                gather(0, true);
            }
            if (used + size > limit) {
                return false;
            }
            if (used + size > cells.length) {
                cells = Arrays.copyOf(cells, longer(cells.length, used + size, MOST_CELLS));
            }
            made += counted;
            return true;
        }

        /** The address of a new object with this head, for which there is room. */
        int lay(long head, int size) {
            int at = used;
            cells[at] = head;
            used += size;
            fresh += size;
            return at;
        }

        /** The address of a new string of bytes 0, for which there is room. */
        int layString(int length) {
            int size = Value.cellsOfString(length);
            int at = lay(Value.head(Value.STRING, length, 0), size);
            Arrays.fill(cells, at + 1, at + size, 0L);
            return at;
        }

        /** Part of an object becomes another value. */
        void change(int cell, long value) {
            cells[cell] = value;
            if (cell < old && Value.kind(value) >= Value.RECORD && Value.number(value) >= old) {
                oldLeadsToNew = true;
            }
        }

        /**
         * Moves what is reached together, from a cell on; those before it stay as they are. The frames' values count
         * only while a run is on. How many cells the globals and the result reach is told when all are gone through.
         */
        void gather(int from, boolean running) {
            if (spare.length < cells.length) {
                spare = new long[cells.length];
            }
            spareUsed = from;
            int scanned = from;
            for (int phase = 0; phase < (running ? 4 : 2); phase++) {
                long[] row = phase < 2 ? globals : phase == 2 ? stacks.values : stacks.closures;
                int begin = phase == 1 ? RESULT : 0;
                int end = phase == 0 ? globalsUsed : phase == 1 ? RESULT + 1 : phase == 2 ? stacks.top : stacks.frames;
                for (int i = begin; i < end; i++) {
                    row[i] = moved(row[i], from);
                }
                for (int turn = 0; turn < MOST_CELLS && scanned < spareUsed; turn++) {
                    int size = sizeOf(spare[scanned]);
                    if (((int) spare[scanned] & Value.KIND_MASK) != Value.STRING) {
                        for (int i = scanned + 1; i < scanned + size; i++) {
                            spare[i] = moved(spare[i], from);
                        }
                    }
                    scanned += size;
                }
                reachedFromGlobals = phase == 0 ? spareUsed : reachedFromGlobals;
                reachedInAll = phase <= 1 ? spareUsed : reachedInAll;
            }
            moveBack(from);
        }

        private void moveBack(int from) {
            System.arraycopy(spare, from, cells, from, spareUsed - from);
            used = spareUsed;
            fresh = 0;
            if (from == 0 || used - from > MOST_YOUNG) {
                old = used;
                oldLeadsToNew = false;
            }
        }

        /** The value behind the move of its object; an object that has moved has its new address as a scalar for a head. */
        private long moved(long value, int from) {
            int kind = (int) value & Value.KIND_MASK;
            int at = (int) (value >> 3);
            if (kind < Value.RECORD || at < from) {
                return value;
            }
            long head = cells[at];
            if (((int) head & Value.KIND_MASK) == Value.SCALAR) {
                return head | kind;
            }
            // As sizeOf() does, without a call more: the calls that lead here are as many as may stand open.
            int size = kind == Value.STRING ? 1 + ((int) (head >> 3) + 3) / 4
                : kind == Value.PACKET ? 2 : 1 + (int) (head >>> Value.COUNT_SHIFT);
            int to = spareUsed;
            for (int i = 0; i < size; i++) {
                spare[to + i] = cells[at + i];
            }
            spareUsed = to + size;
            cells[at] = (long) to << 3;
            return (long) to << 3 | kind;
        }

        int sizeOf(long head) {
            int kind = (int) head & Value.KIND_MASK;
            return kind == Value.STRING ? 1 + ((int) (head >> 3) + 3) / 4
                : kind == Value.PACKET ? 2 : 1 + (int) (head >>> Value.COUNT_SHIFT);
        }

        int keep() {
            gather(0, false);
            kept = reachedFromGlobals;
            if (kept > keptCells.length) {
                keptCells = new long[longer(keptCells.length, kept, MOST_CELLS)];
            }
            System.arraycopy(cells, 0, keptCells, 0, kept);
            System.arraycopy(globals, 0, keptGlobals, 0, GLOBALS);
            keptGlobalsUsed = globalsUsed;
            return kept;
        }

        int bringBack() {
            System.arraycopy(keptGlobals, 0, globals, 0, GLOBALS);
            globalsUsed = keptGlobalsUsed;
            globals[RESULT] = 0;
            System.arraycopy(keptCells, 0, cells, 0, kept);
            used = kept;
            fresh = 0;
            old = kept;
            oldLeadsToNew = false;
            return kept;
        }

        /** What the path leads to from a global or the result, or NOWHERE. */
        long find(int i, long path) {
            if (i < NONE || i >= GLOBALS) {
                return Value.NOWHERE;
            }
            long value = globals[i == NONE ? RESULT : i];
            for (int k = 0; k < 8; k++) {
                int part = (int) (path >>> 8 * k) & 255;
                if (part == 0) {
                    return value;
                }
                if (part > parts(value)) {
                    return Value.NOWHERE;
                }
                value = cells[Value.number(value) + part];
            }
            return value;
        }

        int parts(long value) {
            int kind = Value.kind(value);
            if (kind < Value.RECORD || kind == Value.STRING) {
                return 0;
            }
            return sizeOf(cells[Value.number(value)]) - 1;
        }

        /** The number that look() tells of a value. */
        int told(long value) {
            int number = Value.number(value);
            return Value.kind(value) < Value.RECORD ? number : Value.number(cells[number]);
        }

        /** Part i, from 1 on, of an object that has it. */
        long part(long object, int i) {
            return cells[Value.number(object) + i];
        }

        /** The bytes stand four in a cell, the first one highest, so that cells compare as their bytes do. */
        int byteAt(int address, int k) {
            return (int) (cells[address + 1 + k / 4] >>> 24 - 8 * (k % 4)) & 255;
        }

        void setByte(int address, int k, int b) {
            cells[address + 1 + k / 4] |= (long) (b & 255) << 24 - 8 * (k % 4);
        }
    }

    /** The instructions that make objects and take them apart. */
    private static final class Objects {
        final Program program;
        final Stacks stacks;
        final Heap heap;
        int names;

        Objects(Program program, Stacks stacks, Heap heap) {
            this.program = program;
            this.stacks = stacks;
            this.heap = heap;
        }

        int likeConstant(int k) {
            if (k < 0 || k >= program.constants) {
                return Status.FAULT;
            }
            int begin = program.beginOf(k);
            int length = program.ends[k] - begin;
            if (stacks.isFull() || !heap.ask(Value.cellsOfString(length), 0)) {
                return Status.NO_ROOM;
            }
            int at = heap.layString(length);
            for (int i = 0; i < length; i++) {
                heap.setByte(at, i, program.bytes[begin + i]);
            }
            return stacks.push(Value.object(Value.STRING, at));
        }

        /** A new object of the n values on top takes their place. */
        int wrap(int kind, int number, int n) {
            if (stacks.height() < n) {
                return Status.FAULT;
            }
            if (n == 0 && stacks.isFull() || !heap.ask(n + 1, 0)) {
                return Status.NO_ROOM;
            }
            int at = heap.lay(Value.head(kind, number, n), n + 1);
            stacks.top -= n;
            for (int i = 0; i < n; i++) {
                heap.cells[at + 1 + i] = stacks.values[stacks.top + i];
            }
            return stacks.push(Value.object(kind, at));
        }

        int record(int n) {
            return n < 1 || n > 255 ? Status.FAULT : wrap(Value.RECORD, 0, n);
        }

        int closure(int place, int n) {
            return n < 0 || n > 4095 ? Status.FAULT : wrap(Value.CLOSURE, place, n);
        }

        int field(int i) {
            long record = stacks.peek(0);
            if (Value.kind(record) != Value.RECORD || i < 0 || i >= heap.parts(record)) {
                return Status.FAULT;
            }
            return stacks.replace(1, heap.part(record, i + 1));
        }

        int argument() {
            long value = stacks.peek(0);
            if (Value.kind(value) != Value.CONSTRUCTED && Value.kind(value) != Value.PACKET) {
                return Status.FAULT;
            }
            return stacks.replace(1, heap.part(value, 1));
        }

        int tag() {
            long value = stacks.peek(0);
            if (Value.kind(value) != Value.CONSTRUCTED && Value.kind(value) != Value.SCALAR) {
                return Status.FAULT;
            }
            return stacks.replace(1, Value.scalar(heap.told(value)));
        }

        int captured(int i) {
            long closure = stacks.closure();
            if (Value.kind(closure) != Value.CLOSURE || i < 0 || i >= heap.parts(closure)) {
                return Status.FAULT;
            }
            return stacks.push(heap.part(closure, i + 1));
        }

        int patch(int i) {
            long closure = stacks.peek(1);
            if (Value.kind(closure) != Value.CLOSURE || i < 0 || i >= heap.parts(closure)) {
                return Status.FAULT;
            }
            heap.change(Value.number(closure) + 1 + i, stacks.peek(0));
            return stacks.drop();
        }

        int global(int i) {
            return i < 0 || i >= Heap.GLOBALS ? Status.FAULT : stacks.push(heap.globals[i]);
        }

        int setGlobal(int i) {
            if (i < 0 || i >= Heap.GLOBALS) {
                return Status.FAULT;
            }
            heap.setGlobal(i, stacks.peek(0));
            return stacks.drop();
        }

        int referredTo() {
            long reference = stacks.peek(0);
            if (Value.kind(reference) != Value.REFERENCE) {
                return Status.FAULT;
            }
            return stacks.replace(1, heap.part(reference, 1));
        }

        int refer() {
            long reference = stacks.peek(1);
            if (Value.kind(reference) != Value.REFERENCE) {
                return Status.FAULT;
            }
            heap.change(Value.number(reference) + 1, stacks.peek(0));
            stacks.drop();
            return stacks.drop();
        }

        int name(int k) {
            if (k < 0 || k > 65535) {
                return Status.FAULT;
            }
            if (stacks.isFull()) {
                return Status.NO_ROOM;
            }
            names++;
            return stacks.push(Value.head(Value.NAME, k, names));
        }

        int packet() {
            if (Value.kind(stacks.peek(1)) != Value.NAME) {
                return Status.FAULT;
            }
            if (!heap.ask(2, 0)) {
                return Status.NO_ROOM;
            }
            int at = heap.lay(Value.withKind(stacks.peek(1), Value.PACKET), 2);
            heap.cells[at + 1] = stacks.peek(0);
            return stacks.replace(2, Value.object(Value.PACKET, at));
        }

        int nameOf() {
            long value = stacks.peek(0);
            if (Value.kind(value) == Value.NAME) {
                return Status.ON;
            }
            if (Value.kind(value) != Value.PACKET) {
                return Status.FAULT;
            }
            return stacks.replace(1, Value.withKind(heap.part(value, 0), Value.NAME));
        }

        int isSame() {
            return stacks.replace(2, Value.truth(stacks.peek(0) == stacks.peek(1)));
        }
    }

    /**
     * EQUAL. Values share parts, so that the ways through them may be far more than the parts: two objects that
     * are found to be wanted equal are joined in one class, and a pair of one class is not gone through again.
     */
    private static final class Equality {
        final Heap heap;
        /** links[a] is 1 more than the address that a is joined to, 0 when a leads its class; all 0 between calls. */
        int[] links = new int[0];
        long[] pairs = new long[16];
        int size;

        Equality(Heap heap) {
            this.heap = heap;
        }

        boolean holds(long v, long w) {
            if (links.length < heap.cells.length) {
                links = new int[heap.cells.length];
            }
            size = 0;
            boolean alike = join(v, w);
            for (int k = 0; k < Heap.MOST_CELLS && k < size && alike; k++) {
                alike = joinParts((int) (pairs[k] >> 32), (int) pairs[k]);
            }
            for (int k = 0; k < size; k++) {
                links[(int) (pairs[k] >> 32)] = 0;
                links[(int) pairs[k]] = 0;
            }
            return alike;
        }

        private boolean joinParts(int a, int b) {
            int last = heap.sizeOf(heap.cells[a]) - 1;
            boolean raw = Value.kind(heap.cells[a]) == Value.STRING;
            boolean alike = true;
            for (int i = 1; i <= last && alike; i++) {
                long v = heap.cells[a + i];
                long w = heap.cells[b + i];
                alike = raw ? v == w : join(v, w);
            }
            return alike;
        }

        /** False when the two can't be equal; true when they are if the pairs that wait have equal parts. */
        private boolean join(long v, long w) {
            if (v == w) {
                return true;
            }
            int kind = Value.kind(v);
            if (kind != Value.kind(w) || kind != Value.RECORD && kind != Value.CONSTRUCTED && kind != Value.STRING) {
                return false;
            }
            int a = Value.number(v);
            int b = Value.number(w);
            if (heap.cells[a] != heap.cells[b]) {
                return false;
            }
            int leaderOfA = leader(a);
            int leaderOfB = leader(b);
            if (leaderOfA != leaderOfB) {
                links[leaderOfA] = leaderOfB + 1;
                addPair(a, b);
            }
            return true;
        }

        private int leader(int address) {
            int a = address;
            for (int turn = 0; turn < Heap.MOST_CELLS && links[a] != 0; turn++) {
                int next = links[a] - 1;
                if (links[next] != 0) {
                    links[a] = links[next];
                }
                a = next;
            }
            return a;
        }

        private void addPair(int a, int b) {
            if (size >= pairs.length) {
                pairs = Arrays.copyOf(pairs, longer(pairs.length, size + 1, Heap.MOST_CELLS));
            }
            pairs[size++] = (long) a << 32 | b;
        }
    }

    /** The primitives 0 to 26: on scalars, with sign and as numbers 0 .. 4294967295. */
    private static final class Numbers {
        static final int OVERFLOW = 2;
        static final int DIVISION = 3;

        final Stacks stacks;

        Numbers(Stacks stacks) {
            this.stacks = stacks;
        }

        int apply(int p, int taken) {
            int w = Value.number(stacks.peek(0));
            int v = Value.number(stacks.peek(taken - 1));
            if (w == 0 && (p == 5 || p == 6 || p == 14 || p == 15)) {
                return Status.RAISES + DIVISION;
            }
            long result = p <= 10 ? signed(p, v, w)
                : p == 26 ? v & 0xFFFFFFFFL : p <= 19 ? unsigned(p, v & 0xFFFFFFFFL, w & 0xFFFFFFFFL) : bits(p, v, w);
            if (result != (int) result) {
                return Status.RAISES + OVERFLOW;
            }
            return stacks.replace(taken, Value.scalar((int) result));
        }

        /** The result as it is, within ints or not; the divisor is not 0. */
        private static long signed(int p, long v, long w) {
            switch (p) {
                case 0: return v + w;
                case 1: return v - w;
                case 2: return v * w;
                case 3: return -v;
                case 4: return v < 0 ? -v : v;
                case 5: return w == 0 ? 0 : Math.floorDiv(v, w);
                case 6: return w == 0 ? 0 : Math.floorMod(v, w);
                case 7: return v < w ? 1 : 0;
                case 8: return v > w ? 1 : 0;
                case 9: return v <= w ? 1 : 0;
                default: return v >= w ? 1 : 0;
            }
        }

        private static int unsigned(int p, long v, long w) {
            switch (p) {
                case 11: return (int) (v + w);
                case 12: return (int) (v - w);
                case 13: return (int) (v * w);
                case 14: return w == 0 ? 0 : (int) (v / w);
                case 15: return w == 0 ? 0 : (int) (v % w);
                case 16: return v < w ? 1 : 0;
                case 17: return v > w ? 1 : 0;
                case 18: return v <= w ? 1 : 0;
                default: return v >= w ? 1 : 0;
            }
        }

        private static int bits(int p, int v, int w) {
            boolean within = w >= 0 && w < 32;
            switch (p) {
                case 20: return v & w;
                case 21: return v | w;
                case 22: return v ^ w;
                case 23: return ~v;
                case 24: return within ? v << w : 0;
                default: return within ? v >>> w : 0;
            }
        }
    }

    /** The primitives 27 to 41: on strings. */
    private static final class Strings {
        static final int MOST_BYTES = 65535;
        static final int SUBSCRIPT = 4;
        static final int SIZE = 5;
        static final int BYTE = 6;
        static final int LIST_CELLS = 5;

        final Stacks stacks;
        final Heap heap;
        final Output output;

        Strings(Stacks stacks, Heap heap, Output output) {
            this.stacks = stacks;
            this.heap = heap;
            this.output = output;
        }

        int apply(int p) {
            switch (p) {
                case 27: return concatenate();
                case 28: return stacks.replace(1, Value.scalar(heap.told(stacks.peek(0))));
                case 29: return single();
                case 30: return substring();
                case 31: return element();
                case 32: return stacks.replace(2, Value.scalar(order()));
                case 33: return stacks.replace(2, Value.truth(order() < 0));
                case 34: return stacks.replace(2, Value.truth(order() > 0));
                case 35: return stacks.replace(2, Value.truth(order() <= 0));
                case 36: return stacks.replace(2, Value.truth(order() >= 0));
                case 37: return print();
                case 38: return decimal();
                case 39: return isByte(stacks.peek(0)) ? Status.ON : Status.RAISES + BYTE;
                case 40: return implode();
                default: return explode();
            }
        }

        private static boolean isByte(long value) {
            return Value.kind(value) == Value.SCALAR && Value.number(value) >= 0 && Value.number(value) <= 255;
        }

        private int concatenate() {
            int first = heap.told(stacks.peek(1));
            int second = heap.told(stacks.peek(0));
            if (first + second > MOST_BYTES) {
                return Status.RAISES + SIZE;
            }
            int size = Value.cellsOfString(first + second);
            if (!heap.ask(size, size)) {
                return Status.NO_ROOM;
            }
            int at = heap.layString(first + second);
            copyBytes(Value.number(stacks.peek(1)), 0, first, at, 0);
            copyBytes(Value.number(stacks.peek(0)), 0, second, at, first);
            return stacks.replace(2, Value.object(Value.STRING, at));
        }

        private void copyBytes(int from, int begin, int n, int to, int offset) {
            for (int k = 0; k < n; k++) {
                heap.setByte(to, offset + k, heap.byteAt(from, begin + k));
            }
        }

        private int single() {
            if (!isByte(stacks.peek(0))) {
                return Status.FAULT;
            }
            if (!heap.ask(2, 2)) {
                return Status.NO_ROOM;
            }
            int at = heap.layString(1);
            heap.setByte(at, 0, Value.number(stacks.peek(0)));
            return stacks.replace(1, Value.object(Value.STRING, at));
        }

        private int substring() {
            int begin = Value.number(stacks.peek(1));
            int n = Value.number(stacks.peek(0));
            if (begin < 0 || n < 0 || (long) begin + n > heap.told(stacks.peek(2))) {
                return Status.RAISES + SUBSCRIPT;
            }
            int size = Value.cellsOfString(n);
            if (!heap.ask(size, size)) {
                return Status.NO_ROOM;
            }
            int at = heap.layString(n);
            copyBytes(Value.number(stacks.peek(2)), begin, n, at, 0);
            return stacks.replace(3, Value.object(Value.STRING, at));
        }

        private int element() {
            int k = Value.number(stacks.peek(0));
            if (k < 0 || k >= heap.told(stacks.peek(1))) {
                return Status.RAISES + SUBSCRIPT;
            }
            return stacks.replace(2, Value.scalar(heap.byteAt(Value.number(stacks.peek(1)), k)));
        }

        /** -1, 0 or 1. The bytes 0 that fill a last cell come before all others, so that the lengths decide the rest. */
        private int order() {
            int v = Value.number(stacks.peek(1));
            int w = Value.number(stacks.peek(0));
            int first = heap.told(stacks.peek(1));
            int second = heap.told(stacks.peek(0));
            int shared = Value.cellsOfString(Math.min(first, second));
            for (int i = 1; i < shared; i++) {
                if (heap.cells[v + i] != heap.cells[w + i]) {
                    return heap.cells[v + i] < heap.cells[w + i] ? -1 : 1;
                }
            }
            return first < second ? -1 : first > second ? 1 : 0;
        }

        private int print() {
            int at = Value.number(stacks.peek(0));
            int kept = output.accept(heap.told(stacks.peek(0)));
            for (int k = 0; k < kept; k++) {
                output.add(heap.byteAt(at, k));
            }
            return stacks.replace(1, Value.scalar(0));
        }

        private int decimal() {
            int n = Value.number(stacks.peek(0));
            long rest = n < 0 ? -(long) n : n;
            int length = n < 0 ? 2 : 1;
            for (long bound = 10; bound <= rest; bound *= 10) {
                length++;
            }
            int size = Value.cellsOfString(length);
            if (!heap.ask(size, size)) {
                return Status.NO_ROOM;
            }
            int at = heap.layString(length);
            int first = n < 0 ? 1 : 0;
            for (int k = length - 1; k >= first; k--) {
                heap.setByte(at, k, '0' + (int) (rest % 10));
                rest /= 10;
            }
            if (n < 0) {
                heap.setByte(at, 0, '~');
            }
            return stacks.replace(1, Value.object(Value.STRING, at));
        }

        private int implode() {
            int length = listLength(stacks.peek(0));
            if (length < 0) {
                return Status.FAULT;
            }
            if (length > MOST_BYTES) {
                return Status.RAISES + SIZE;
            }
            int size = Value.cellsOfString(length);
            if (!heap.ask(size, size)) {
                return Status.NO_ROOM;
            }
            int at = heap.layString(length);
            long list = stacks.peek(0);
            for (int k = 0; k < length; k++) {
                long pair = heap.part(list, 1);
                heap.setByte(at, k, Value.number(heap.part(pair, 1)));
                list = heap.part(pair, 2);
            }
            return stacks.replace(1, Value.object(Value.STRING, at));
        }

        /** How many bytes the list has; NONE when it is no list of bytes. */
        private int listLength(long value) {
            long list = value;
            for (int n = 0; n < Heap.MOST_CELLS; n++) {
                if (list == Value.scalar(0)) {
                    return n;
                }
                if (Value.kind(list) != Value.CONSTRUCTED || heap.told(list) != 1) {
                    return NONE;
                }
                long pair = heap.part(list, 1);
                if (Value.kind(pair) != Value.RECORD || heap.parts(pair) != 2 || !isByte(heap.part(pair, 1))) {
                    return NONE;
                }
                list = heap.part(pair, 2);
            }
            return NONE;
        }

        private int explode() {
            int length = heap.told(stacks.peek(0));
            if (length > 0 && !heap.ask(LIST_CELLS * length, LIST_CELLS * length)) {
                return Status.NO_ROOM;
            }
            int from = Value.number(stacks.peek(0));
            long list = Value.scalar(0);
            for (int k = length - 1; k >= 0; k--) {
                int pair = heap.lay(Value.head(Value.RECORD, 0, 2), 3);
                heap.cells[pair + 1] = Value.scalar(heap.byteAt(from, k));
                heap.cells[pair + 2] = list;
                int link = heap.lay(Value.head(Value.CONSTRUCTED, 1, 1), 2);
                heap.cells[link + 1] = Value.object(Value.RECORD, pair);
                list = Value.object(Value.CONSTRUCTED, link);
            }
            return stacks.replace(1, list);
        }
    }

    /** The run: where it is, what it has left, and one instruction after the other. */
    private static final class Machine {
        static final int MOST_FUEL = 1000000;
        static final int MOST_STEPS = 100000;
        static final int SWITCH = 22;
        /** How many operands an instruction has (SWITCH: at the least) and how many values it takes at the least. */
        private static final int[] OPERANDS = {
            0, 1, 1, 1, 1, 1, 1, 1, 0, 0, 1, 1, 1, 0, 0, 2, 1, 0, 0, 0,
            1, 1, 2, 0, 0, 0, 1, 0, 0, 1, 0, 0, 0, 0, 1, 0, 1, 1, 1, 0};
        private static final int[] TAKEN = {
            1, 0, 0, 0, 1, 0, 0, 1, 1, 1, 0, 1, 1, 1, 1, 0, 2, 2, 2, 1,
            0, 1, 1, 1, 1, 2, 0, 0, 1, 0, 2, 1, 2, 2, 0, 0, 0, 0, 0, 2};
        /** How many values a primitive takes, and how many of them, the first ones, are strings. */
        private static final int[] PRIMITIVE_TAKES = {
            2, 2, 2, 1, 1, 2, 2, 2, 2, 2, 2, 2, 2, 2, 2, 2, 2, 2, 2, 2, 2,
            2, 2, 1, 2, 2, 1, 2, 1, 1, 3, 2, 2, 2, 2, 2, 2, 1, 1, 1, 1, 1};
        private static final int[] PRIMITIVE_STRINGS = {
            0, 0, 0, 0, 0, 0, 0, 0, 0, 0, 0, 0, 0, 0, 0, 0, 0, 0, 0, 0, 0,
            0, 0, 0, 0, 0, 0, 2, 1, 0, 1, 1, 2, 2, 2, 2, 2, 1, 0, 0, 0, 1};
        private static final int FIRST_ON_STRINGS = 27;
        private static final int IMPLODE = 40;

        final Program program;
        final Stacks stacks;
        final Heap heap;
        final Objects objects;
        final Equality equality;
        final Numbers numbers;
        final Strings strings;
        int status = Status.NOT_BEGUN;
        int place;
        int next;
        int fuel;
        int ticks;
        int depth;
        int depthLimit = 2000;
        int done;

        Machine(Program program, Stacks stacks, Heap heap, Output output) {
            this.program = program;
            this.stacks = stacks;
            this.heap = heap;
            objects = new Objects(program, stacks, heap);
            equality = new Equality(heap);
            numbers = new Numbers(stacks);
            strings = new Strings(stacks, heap, output);
        }

        void begin(int firstPlace, int newFuel) {
            status = Status.ON;
            place = firstPlace;
            fuel = newFuel;
            ticks = 0;
            depth = 0;
            done = 0;
            heap.made = 0;
            heap.globals[Heap.RESULT] = 0;
            stacks.begin();
        }

        void forget() {
            status = Status.NOT_BEGUN;
            stacks.clear();
        }

        int number(int what) {
            switch (what) {
                case 2: return fuel;
                case 3: return ticks;
                case 5: return depth;
                case 6: return stacks.frames;
                case 7: return stacks.top;
                case 8: return stacks.handlers;
                case 10: return place;
                case 11: return done;
                default: return NONE;
            }
        }

        int advance(int n) {
            for (int i = 0; i < n && status == Status.ON; i++) {
                int operands = operandsHere();
                if (operands == NONE) {
                    status = Status.FAULT;
                } else {
                    next = place + 1 + operands;
                    status = perform(program.words[place], operands == 0 ? 0 : program.words[place + 1]);
                }
                if (Status.isDone(status)) {
                    place = next;
                    done++;
                }
            }
            return status;
        }

        /** How many operands stand behind the next instruction; NONE when it can't be done at all. */
        private int operandsHere() {
            if (place < 0 || place >= program.size) {
                return NONE;
            }
            int op = program.words[place];
            if (op < 0 || op >= OPERANDS.length || place + OPERANDS[op] >= program.size || stacks.height() < TAKEN[op]) {
                return NONE;
            }
            if (op != SWITCH) {
                return OPERANDS[op];
            }
            int n = program.words[place + 1];
            return n < 0 || n > 255 || place + n + 2 >= program.size ? NONE : n + 2;
        }

        /** Does an instruction whose operands, the first one being a, and values are there: how the run stands then. */
        private int perform(int op, int a) {
            switch (op) {
                case 0: return stop();
                case 1: return stacks.push(Value.scalar(a));
                case 2: return objects.likeConstant(a);
                case 3: return stacks.local(a);
                case 4: return stacks.store(a);
                case 5: return objects.captured(a);
                case 6: return objects.global(a);
                case 7: return objects.setGlobal(a);
                case 8: return stacks.drop();
                case 9: return stacks.push(stacks.peek(0));
                case 10: return objects.record(a);
                case 11: return objects.field(a);
                case 12: return objects.wrap(Value.CONSTRUCTED, a, 1);
                case 13: return objects.argument();
                case 14: return objects.tag();
                case 15: return objects.closure(a, program.words[place + 2]);
                case 16: return objects.patch(a);
                case 17: return enterFrame();
                case 18: return replaceFrame();
                case 19: return leaveFrame();
                case 20: return goOn(a);
                case 21: return unless(a);
                case 22: return choose(a);
                case 23: return objects.wrap(Value.REFERENCE, 0, 1);
                case 24: return objects.referredTo();
                case 25: return objects.refer();
                case 26: return stacks.addHandler(a, depth);
                case 27: return unhandle();
                case 28: return raiseTop();
                case 29: return objects.name(a);
                case 30: return objects.packet();
                case 31: return objects.nameOf();
                case 32: return objects.isSame();
                case 33: return stacks.replace(2, Value.truth(equality.holds(stacks.peek(1), stacks.peek(0))));
                case 34: return !primitiveFits(a) ? Status.FAULT
                    : settle(a, a < FIRST_ON_STRINGS ? numbers.apply(a, PRIMITIVE_TAKES[a]) : strings.apply(a));
                case 35: return tick();
                case 36: return make(a);
                case 37: return stacks.setLocals(a);
                case 38: return deepen(a);
                default: return stacks.swap();
            }
        }

        private int stop() {
            heap.globals[Heap.RESULT] = stacks.peek(0);
            stacks.drop();
            return Status.STOPPED;
        }

        private int goOn(int there) {
            next = there;
            return Status.ON;
        }

        private int enterFrame() {
            long closure = stacks.peek(1);
            if (Value.kind(closure) != Value.CLOSURE) {
                return Status.FAULT;
            }
            int outcome = stacks.enter(next);
            if (outcome == Status.ON) {
                next = heap.told(closure);
            }
            return outcome;
        }

        private int replaceFrame() {
            long closure = stacks.peek(1);
            if (Value.kind(closure) != Value.CLOSURE || stacks.hasHandler()) {
                return Status.FAULT;
            }
            stacks.become();
            return goOn(heap.told(closure));
        }

        private int leaveFrame() {
            return stacks.frames < 2 || stacks.hasHandler() ? Status.FAULT : goOn(stacks.leave());
        }

        private int unless(int there) {
            long value = stacks.peek(0);
            if (Value.kind(value) != Value.SCALAR) {
                return Status.FAULT;
            }
            stacks.drop();
            return goOn(Value.number(value) == 0 ? there : next);
        }

        private int choose(int n) {
            long value = stacks.peek(0);
            if (Value.kind(value) != Value.SCALAR) {
                return Status.FAULT;
            }
            int x = Value.number(value);
            stacks.drop();
            return goOn(program.words[place + 2 + (x < 0 || x >= n ? n : x)]);
        }

        private int unhandle() {
            if (!stacks.hasHandler()) {
                return Status.FAULT;
            }
            stacks.handlers--;
            return Status.ON;
        }

        private int raiseTop() {
            long raised = stacks.peek(0);
            int kind = Value.kind(raised);
            return kind != Value.NAME && kind != Value.PACKET ? Status.FAULT : raise(raised, 1);
        }

        private int raise(long raised, int taken) {
            if (stacks.handlers == 0) {
                stacks.top -= taken;
                heap.globals[Heap.RESULT] = raised;
                return Status.RAISED;
            }
            if (!stacks.unwind(raised, taken)) {
                return Status.FAULT;
            }
            depth = stacks.handlerDepths[stacks.handlers];
            return goOn(stacks.handlerPlaces[stacks.handlers]);
        }

        private boolean primitiveFits(int p) {
            if (p < 0 || p >= PRIMITIVE_TAKES.length || stacks.height() < PRIMITIVE_TAKES[p]) {
                return false;
            }
            if (p == IMPLODE) {
                return true;
            }
            int taken = PRIMITIVE_TAKES[p];
            for (int k = 0; k < taken; k++) {
                int kind = k < PRIMITIVE_STRINGS[p] ? Value.STRING : Value.SCALAR;
                if (Value.kind(stacks.peek(taken - 1 - k)) != kind) {
                    return false;
                }
            }
            return true;
        }

        /** Raises what a primitive wants raised. */
        private int settle(int p, int outcome) {
            if (outcome < Status.RAISES) {
                return outcome;
            }
            long raised = heap.globals[outcome - Status.RAISES];
            return Value.kind(raised) != Value.NAME ? Status.FAULT : raise(raised, PRIMITIVE_TAKES[p]);
        }

        private int tick() {
            if (fuel == 0) {
                return Status.NO_FUEL;
            }
            fuel--;
            ticks++;
            return Status.ON;
        }

        private int make(int n) {
            if (n < 0) {
                return Status.FAULT;
            }
            if ((long) heap.made + n > heap.madeLimit) {
                return Status.NO_ROOM;
            }
            heap.made += n;
            return Status.ON;
        }

        private int deepen(int n) {
            long deeper = (long) depth + n;
            if (deeper < 0) {
                return Status.FAULT;
            }
            if (deeper > depthLimit) {
                return Status.NO_ROOM;
            }
            depth = (int) deeper;
            return Status.ON;
        }
    }
}
