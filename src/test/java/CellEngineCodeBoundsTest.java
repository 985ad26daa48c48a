/**
 * The bounds of instructions 0 to 39, as "Terms" tells them: how much an instruction takes, of which kinds, the
 * ranges of its operands, the end of the code, and that an instruction which ends a run by a fault does nothing.
 */
public final class CellEngineCodeBoundsTest extends Checks {
    private static final int SCALAR = 1, EXCEPTION = 2, OF_RECORD = 4, CONSTRUCTED = 8, OF_CLOSURE = 16, REFERENCE = 32,
        OF_STRING = 64, OF_PACKET = 128, ANY = 255;

    /** An instruction with operands that fit, how many values it puts, and the kinds of what it takes, the last one on top. */
    private static final class Case {
        final int[] words;
        final int puts;
        final int[] kinds;

        Case(int[] words, int puts, int... kinds) {
            this.words = words;
            this.puts = puts;
            this.kinds = kinds;
        }

        String name() {
            return "instruction " + words[0] + (words[0] == PRIM ? " " + words[1] : "");
        }

        int end() {
            return words[0] == STOP ? STOPPED : words[0] == RAISE ? RAISED : ON;
        }
    }

    private static int[] op(int... words) {
        return words;
    }

    private static final Case[] CASES = {
        new Case(op(STOP), 0, ANY), new Case(op(INT, 4), 1), new Case(op(TEXT, 0), 1), new Case(op(LOCAL, 1), 1),
        new Case(op(STORE, 1), 0, ANY), new Case(op(FREE, 0), 1), new Case(op(GLOBAL, 0), 1),
        new Case(op(SETGLOBAL, 0), 0, ANY), new Case(op(POP), 0, ANY), new Case(op(DUP), 2, ANY),
        new Case(op(RECORD, 1), 1, ANY), new Case(op(RECORD, 2), 1, ANY, ANY), new Case(op(RECORD, 3), 1, ANY, ANY, ANY),
        new Case(op(FIELD, 0), 1, OF_RECORD), new Case(op(BUILD, 7), 1, ANY),
        new Case(op(ARGUMENT), 1, CONSTRUCTED | OF_PACKET), new Case(op(TAG), 1, CONSTRUCTED | SCALAR),
        new Case(op(CLOSURE, 0, 0), 1), new Case(op(CLOSURE, 0, 1), 1, ANY), new Case(op(CLOSURE, 0, 2), 1, ANY, ANY),
        new Case(op(PATCH, 0), 1, OF_CLOSURE, ANY), new Case(op(CALL), 1, OF_CLOSURE, ANY),
        new Case(op(TAIL), 0, OF_CLOSURE, ANY), new Case(op(RETURN), 0, ANY), new Case(op(JUMP, 0), 0),
        new Case(op(UNLESS, 0), 0, SCALAR), new Case(op(SWITCH, 0, 0), 0, SCALAR),
        new Case(op(SWITCH, 2, 0, 0, 0), 0, SCALAR), new Case(op(REF), 1, ANY), new Case(op(GET), 1, REFERENCE),
        new Case(op(PUT), 0, REFERENCE, ANY), new Case(op(HANDLE, 0), 0), new Case(op(RAISE), 0, EXCEPTION | OF_PACKET),
        new Case(op(NAME, 0), 1), new Case(op(PACKET), 1, EXCEPTION, ANY), new Case(op(NAMEOF), 1, EXCEPTION | OF_PACKET),
        new Case(op(SAME), 1, ANY, ANY), new Case(op(EQUAL), 1, ANY, ANY), new Case(op(TICK), 0), new Case(op(MAKE, 3), 0),
        new Case(op(LOCALS, 5), 0), new Case(op(DEPTH, 2), 0), new Case(op(SWAP), 2, ANY, ANY)};

    private static Case ofPrimitive(int p) {
        int[] words = {PRIM, p};
        if (p == 3 || p == 4 || p == 23 || p == 26 || p == 29 || p == 38 || p == 39) {
            return new Case(words, 1, SCALAR);
        }
        if (p <= 26) {
            return new Case(words, 1, SCALAR, SCALAR);
        }
        if (p == 28 || p == 37 || p == 41) {
            return new Case(words, 1, OF_STRING);
        }
        // The constructed value is a list, the scalar is none: it is not 0.
        return p == 30 ? new Case(words, 1, OF_STRING, SCALAR, SCALAR) : p == 31 ? new Case(words, 1, OF_STRING, SCALAR)
            : p == 40 ? new Case(words, 1, CONSTRUCTED) : new Case(words, 1, OF_STRING, OF_STRING);
    }

    private static Case[] allCases() {
        Case[] all = java.util.Arrays.copyOf(CASES, CASES.length + 42);
        for (int p = 0; p <= 41; p++) {
            all[CASES.length + p] = ofPrimitive(p);
        }
        return all;
    }

    public static void main(String[] args) {
        everyInstruction();
        whatChanges();
        stackTooSmall();
        stackOfTheFrameBelow();
        otherKinds();
        beyondTheCode();
        noInstruction();
        rangesOfOperands();
        localsOfFrames();
        capturedValues();
        recordSizes();
        closureSizes();
        switchSizes();
        goesOnBeyond();
        returnOfTheFirstFrame();
        handlersMustBeGone();
        handlerHeights();
        raiseEnds();
        ticks();
        made();
        depths();
        localsNumbers();
        names();
        equality();
        end();
    }

    private static final int KINDS_AT = 100;

    /** Globals 100 .. 107 are of kinds 0 .. 7; then a frame with five locals and a closure of one value is the top one. */
    private static CellEngine prepared() {
        CellEngine x = new CellEngine();
        text(x, "twelve bytes");
        add(x, INT, 5, SETGLOBAL, KINDS_AT, NAME, 9, SETGLOBAL, KINDS_AT + 1, INT, 5, INT, 0, RECORD, 2, SETGLOBAL, KINDS_AT + 2);
        add(x, GLOBAL, KINDS_AT + 2, BUILD, 1, SETGLOBAL, KINDS_AT + 3, INT, 5, CLOSURE, 0, 1, SETGLOBAL, KINDS_AT + 4);
        add(x, INT, 5, REF, SETGLOBAL, KINDS_AT + 5, TEXT, 0, SETGLOBAL, KINDS_AT + 6);
        add(x, GLOBAL, KINDS_AT + 1, INT, 5, PACKET, SETGLOBAL, KINDS_AT + 7);
        int place = x.count(0) + 8;
        add(x, INT, 5, CLOSURE, place, 1, INT, 6, CALL, LOCALS, 5);
        return x;
    }

    /** Puts values of these kinds (as look() tells them) on the stack, and then is before the instruction. */
    private static CellEngine before(Case c, int... kinds) {
        CellEngine x = prepared();
        for (int kind : kinds) {
            add(x, GLOBAL, KINDS_AT + kind);
        }
        int place = x.count(0);
        add(x, c.words);
        return upTo(place, 9, x);
    }

    private static int[] fitting(Case c) {
        int[] kinds = new int[c.kinds.length];
        for (int k = 0; k < kinds.length; k++) {
            kinds[k] = Integer.numberOfTrailingZeros(c.kinds[k]);
        }
        return kinds;
    }

    private static void everyInstruction() {
        where = "instructions 0 to 39, primitives 0 to 41";
        boolean[] met = new boolean[40];
        for (Case c : allCases()) {
            met[c.words[0]] = true;
        }
        for (int op = 0; op < 40; op++) {
            due("instruction " + op + " has a case", met[op], op != UNHANDLE);
        }
    }

    /** How much of this count more there is behind an instruction that fits. */
    private static int more(Case c, int what) {
        int op = c.words[0];
        int p = op == PRIM ? c.words[1] : NONE;
        switch (what) {
            case 2: return op == TICK ? -1 : 0;
            case 3: return op == TICK ? 1 : 0;
            // A string of two times 12 bytes, of one, of 5, of a digit, of one again, and a list of 12.
            case 4: return op == MAKE ? 3 : p == 27 ? 7 : p == 29 || p == 38 || p == 40 ? 2 : p == 30 ? 3 : p == 41 ? 60 : 0;
            case 5: return op == DEPTH ? 2 : 0;
            case 6: return op == CALL ? 1 : op == RETURN ? -1 : 0;
            // With TAIL the five locals become one; with RETURN they go, and the value is put below.
            case 7: return c.puts - c.kinds.length - (op == TAIL ? 4 : op == RETURN ? 4 : 0);
            case 8: return op == HANDLE ? 1 : 0;
            case 9: return p == 37 ? 12 : 0;
            case 11: return 1;
            default: return 0;
        }
    }

    private static void whatChanges() {
        where = "an instruction takes and puts as many as said, and changes no other count";
        for (Case c : allCases()) {
            CellEngine x = before(c, fitting(c));
            int[] counts = seen(x);
            int place = x.count(10);
            due(c.name() + " goes", x.step(1), c.end());
            for (int what = 0; what <= 11; what++) {
                if (what != 10) {
                    due(c.name() + ": count " + what, x.count(what), counts[what] + more(c, what));
                }
            }
            boolean straight = c.words[0] < CALL || c.words[0] > SWITCH;
            if (straight) {
                due(c.name() + ": place", x.count(10), place + c.words.length);
            }
        }
    }

    /** As many values as are missing stand where the stack would have them: in the last locals. */
    private static CellEngine withLess(Case c, int less) {
        CellEngine x = prepared();
        int[] kinds = fitting(c);
        for (int k = 0; k < less; k++) {
            add(x, GLOBAL, KINDS_AT + kinds[k], STORE, 5 - less + k);
        }
        for (int k = less; k < kinds.length; k++) {
            add(x, GLOBAL, KINDS_AT + kinds[k]);
        }
        int place = x.count(0);
        add(x, c.words);
        return upTo(place, 9, x);
    }

    private static void stackTooSmall() {
        where = "fault: finds a stack too small";
        for (Case c : allCases()) {
            CellEngine x = withLess(c, 0);
            int done = x.count(11);
            due(c.name() + " with as much as it takes", x.step(1), c.end());
            due(c.name() + " is done", x.count(11), done + 1);
            for (int less = 1; less <= c.kinds.length; less++) {
                dueNothing(c.name() + " with " + less + " less", withLess(c, less), FAULT);
            }
        }
    }

    private static void stackOfTheFrameBelow() {
        where = "fault: finds a stack too small, though the frame below has more";
        for (Case c : allCases()) {
            int[] kinds = fitting(c);
            if (kinds.length > 0) {
                CellEngine x = prepared();
                add(x, GLOBAL, KINDS_AT + kinds[0]);
                int place = x.count(0) + 8;
                // The value below is the very next one, but for STORE, which needs a local.
                add(x, INT, 5, CLOSURE, place, 1, INT, 6, CALL, LOCALS, c.words[0] == STORE ? 2 : 0);
                for (int k = 1; k < kinds.length; k++) {
                    add(x, GLOBAL, KINDS_AT + kinds[k]);
                }
                int there = x.count(0);
                add(x, c.words);
                dueNothing(c.name(), upTo(there, 9, x), FAULT);
            }
        }
    }

    private static void otherKinds() {
        where = "fault: finds values of other kinds";
        for (Case c : allCases()) {
            int n = c.kinds.length;
            for (int choice = 0; choice < 1 << 3 * n; choice++) {
                int[] kinds = new int[n];
                boolean fits = true;
                for (int k = 0; k < n; k++) {
                    kinds[k] = choice >> 3 * k & 7;
                    fits &= (c.kinds[k] >> kinds[k] & 1) == 1;
                }
                String what = c.name() + " of " + java.util.Arrays.toString(kinds);
                CellEngine x = before(c, kinds);
                if (fits) {
                    due(what, x.step(1), c.end());
                } else {
                    dueNothing(what, x, FAULT);
                }
            }
        }
    }

    private static void beyondTheCode() {
        where = "fault: stands or has operands beyond the code";
        for (Case c : allCases()) {
            CellEngine x = before(c, fitting(c));
            int size = x.count(0);
            for (int less = 0; less <= c.words.length; less++) {
                CellEngine y = before(c, fitting(c));
                int place = y.count(10);
                int steps = y.count(11);
                y.save();
                due("cut", y.cut(size - less), size - less);
                y.start(0, 9);
                due("on the way", y.step(steps), ON);
                due("before it", y.count(10), place);
                if (less == 0) {
                    due(c.name() + " whole", y.step(1), c.end());
                } else {
                    dueNothing(c.name() + " without its last " + less, y, FAULT);
                }
            }
        }
        CellEngine x = with(HANDLE, 0, UNHANDLE);
        due("UNHANDLE whole", upTo(2, 0, x).step(1), ON);
        dueNothing("behind it", x, FAULT);
        due("place", x.count(10), 3);
    }

    private static void noInstruction() {
        where = "fault: an instruction is none";
        for (int op : new int[] {-1, -2, 40, 41, 64, 127, 128, 255, 256, MIN, MAX}) {
            CellEngine x = with(INT, 1, INT, 2, INT, 3, op, 0, 0, 0);
            dueNothing("instruction " + op, upTo(6, 9, x), FAULT);
        }
        CellEngine y = with(INT, 1, INT, 2, SWAP);
        dueDone("instruction 39", upTo(4, 0, y));
        for (int p : new int[] {-1, 42, 43, MIN, MAX}) {
            CellEngine x = with(INT, 1, INT, 2, INT, 3, PRIM, p);
            dueNothing("primitive " + p, upTo(6, 9, x), FAULT);
        }
    }

    /** With these words before it the instruction takes the operands of the first row and not those of the second. */
    private static void dueRange(String what, int[] before, int[] words, int at, int[] taken, int[] refused) {
        for (int operand : taken) {
            int[] op = words.clone();
            op[at] = operand;
            CellEngine x = with(join(before, op));
            text(x, "one");
            text(x, "two");
            x.limits(131072, MAX, MAX);
            dueDone(what + " " + operand, upTo(before.length, 9, x));
        }
        for (int operand : refused) {
            int[] op = words.clone();
            op[at] = operand;
            CellEngine x = with(join(before, op));
            text(x, "one");
            text(x, "two");
            x.limits(131072, MAX, MAX);
            dueNothing(what + " " + operand, upTo(before.length, 9, x), FAULT);
        }
    }

    private static void rangesOfOperands() {
        where = "operands from their least to their largest, and beside them";
        int[] all = {0, 1, -1, 39, 40, 2047, 2048, 65535, 65536, MIN, MAX};
        dueRange("INT", op(), op(INT, 0), 1, all, op());
        dueRange("TEXT", op(), op(TEXT, 0), 1, op(0, 1), op(2, 3, -1, MIN, MAX));
        dueRange("LOCAL", op(LOCALS, 3), op(LOCAL, 0), 1, op(0, 2), op(3, 4, -1, MIN, MAX));
        dueRange("LOCAL of 0", op(LOCALS, 0, INT, 5), op(LOCAL, 0), 1, op(), op(0, -1, 1));
        dueRange("STORE", op(LOCALS, 3, INT, 1, INT, 2), op(STORE, 0), 1, op(0, 2), op(3, 4, -1, MIN, MAX));
        dueRange("GLOBAL", op(), op(GLOBAL, 0), 1, op(0, 1, 2046, 2047), op(-1, 2048, 2049, MIN, MAX));
        dueRange("SETGLOBAL", op(INT, 3), op(SETGLOBAL, 0), 1, op(0, 1, 2046, 2047), op(-1, 2048, 2049, MIN, MAX));
        dueRange("RECORD", op(INT, 1, INT, 2), op(RECORD, 0), 1, op(1, 2), op(0, 3, -1, 256, MIN, MAX));
        int[] record = {INT, 1, INT, 2, INT, 3, RECORD, 3};
        dueRange("FIELD", record, op(FIELD, 0), 1, op(0, 1, 2), op(3, 4, -1, MIN, MAX));
        dueRange("BUILD", op(INT, 1), op(BUILD, 0), 1, all, op());
        dueRange("CLOSURE", op(), op(CLOSURE, 0, 0), 1, all, op());
        dueRange("CLOSURE 0", op(INT, 1, INT, 2), op(CLOSURE, 0, 0), 2, op(0, 1, 2), op(3, -1, 4095, 4096, MIN, MAX));
        int[] closure = {INT, 1, INT, 2, CLOSURE, 0, 2, INT, 9};
        dueRange("PATCH", closure, op(PATCH, 0), 1, op(0, 1), op(2, 3, -1, MIN, MAX));
        dueRange("PATCH of no captured values", op(CLOSURE, 0, 0, INT, 9), op(PATCH, 0), 1, op(), op(0, -1));
        dueRange("JUMP", op(), op(JUMP, 0), 1, all, op());
        dueRange("UNLESS that goes there", op(INT, 0), op(UNLESS, 0), 1, all, op());
        dueRange("UNLESS that does not", op(INT, 1), op(UNLESS, 0), 1, all, op());
        dueRange("SWITCH to", op(INT, 0), op(SWITCH, 1, 0, 0), 2, all, op());
        dueRange("SWITCH else", op(INT, 1), op(SWITCH, 1, 0, 0), 3, all, op());
        dueRange("HANDLE", op(), op(HANDLE, 0), 1, all, op());
        dueRange("NAME", op(), op(NAME, 0), 1, op(0, 1, 65534, 65535), op(-1, 65536, 65537, MIN, MAX));
        dueRange("MAKE", op(), op(MAKE, 0), 1, op(0, 1, MAX), op(-1, -2, MIN));
        dueRange("LOCALS", op(), op(LOCALS, 0), 1, op(0, 1, 16382, 16383), op(-1, 16384, 65536, MIN, MAX));
        dueRange("DEPTH", op(DEPTH, 4), op(DEPTH, 0), 1, op(0, 1, -1, -3, -4, MAX - 4), op(-5, -6, MIN, MIN + 1));
        int[] three = {TEXT, 0, INT, 1, INT, 1};
        dueRange("PRIMITIVE", three, op(PRIM, 0), 1, op(0, 30), op(-1, 42, MIN, MAX));
    }

    private static void localsOfFrames() {
        where = "locals: the first frame has none at first, others one: the argument";
        dueNothing("LOCAL 0 of the first frame", upTo(2, 0, with(INT, 7, LOCAL, 0)), FAULT);
        dueNothing("STORE 0 of the first frame", upTo(2, 0, with(INT, 7, STORE, 0)), FAULT);
        int[] call = {INT, 4, CLOSURE, 8, 0, INT, 5, CALL};
        dueScalar("LOCAL 0", 5, join(call, LOCAL, 0, STOP));
        dueNothing("LOCAL 1", upTo(8, 0, with(join(call, LOCAL, 1))), FAULT);
        dueNothing("POP", upTo(8, 0, with(join(call, POP))), FAULT);
        dueDone("STORE 0", upTo(10, 0, with(join(call, INT, 6, STORE, 0))));
        dueNothing("STORE 1", upTo(10, 0, with(join(call, INT, 6, STORE, 1))), FAULT);
        int[] tail = {LOCALS, 3, INT, 4, CLOSURE, 10, 0, INT, 5, TAIL};
        dueScalar("LOCAL 0 behind TAIL", 5, join(tail, LOCAL, 0, STOP));
        dueNothing("LOCAL 1 behind TAIL", upTo(10, 0, with(join(tail, LOCAL, 1))), FAULT);
        dueNothing("POP behind TAIL", upTo(10, 0, with(join(tail, POP))), FAULT);
        // The argument may be any value, and the frame below keeps its own locals.
        dueScalar("the frame below", 3, LOCALS, 1, INT, 3, STORE, 0, CLOSURE, 17, 0, INT, 5, CALL, POP, LOCAL, 0, STOP, 0,
            INT, 8, STORE, 0, LOCAL, 0, RETURN);
    }

    private static void capturedValues() {
        where = "captured values: 0 .. n - 1 of the frame's closure; the first frame has none at first";
        dueNothing("the first frame", upTo(0, 0, with(FREE, 0)), FAULT);
        int[] call = {INT, 40, INT, 41, CLOSURE, 10, 2, INT, 5, CALL};
        dueScalar("FREE 0", 40, join(call, FREE, 0, STOP));
        dueScalar("FREE 1", 41, join(call, FREE, 1, STOP));
        for (int i : new int[] {2, 3, -1, MIN, MAX}) {
            dueNothing("FREE " + i, upTo(10, 0, with(join(call, FREE, i))), FAULT);
        }
        dueNothing("none captured", upTo(8, 0, with(INT, 4, CLOSURE, 8, 0, INT, 5, CALL, FREE, 0)), FAULT);
        // TAIL gives the first frame a closure; behind RETURN the frame below has its own again.
        dueScalar("TAIL", 40, INT, 40, CLOSURE, 8, 1, INT, 5, TAIL, FREE, 0, STOP);
        dueNothing("RETURN to the first frame", upTo(8, 0, with(INT, 40, CLOSURE, 10, 1, INT, 5, CALL, FREE, 0, INT, 1, RETURN)), FAULT);
    }

    private static void recordSizes() {
        where = "a RECORD of 1 to 255 values";
        int[] widths = {1, 2, 254, 255};
        for (int n : widths) {
            CellEngine x = wide(n, RECORD, n);
            dueLook(x, NONE, 0, 2, 0, n);
            dueLook(x, NONE, 1, 0, 0, 0);
            dueLook(x, NONE, n, 0, n - 1, 0);
            due("cells", x.reached(), n + 1);
            due("values left", x.count(7), 1);
        }
        CellEngine y = wide(300, INT, 0);
        for (int n : new int[] {0, 256, 257, -1, MIN, MAX}) {
            y.cut(22);
            add(y, RECORD, n);
            y.start(0, 0);
            dueStepsTo(22, y);
            dueNothing("RECORD " + n + " of 300 values", y, FAULT);
        }
        CellEngine z = wide(254, INT, 0);
        z.cut(22);
        add(z, RECORD, 255);
        z.start(0, 0);
        dueStepsTo(22, z);
        dueNothing("RECORD 255 of 254 values", z, FAULT);
        for (int i : new int[] {254, 255}) {
            CellEngine w = wide(255, RECORD, 255);
            w.cut(w.count(0) - 1);
            add(w, FIELD, i, STOP);
            due("FIELD " + i + " of 255", run(w, 0, 0), i == 254 ? STOPPED : FAULT);
            due("FIELD " + i + " of 255", w.look(NONE, 0, 1), i == 254 ? 254 : 0);
        }
    }

    /** Goes on by single steps to a place behind a loop. */
    private static void dueStepsTo(int place, CellEngine x) {
        for (int turn = 0; turn < 100000 && x.count(10) != place; turn++) {
            x.step(1);
        }
        due("before the instruction", x.count(10), place);
        due("on", x.step(0), ON);
    }

    private static void closureSizes() {
        where = "a CLOSURE of 0 to 4095 captured values";
        for (int n : new int[] {0, 1, 4094, 4095}) {
            CellEngine x = n == 0 ? with(CLOSURE, 7, 0, STOP) : wide(n, CLOSURE, 7, n);
            due("run", run(x, 0, 0), STOPPED);
            dueLook(x, NONE, 0, 4, 7, n);
            due("cells", x.reached(), n + 1);
        }
        CellEngine y = wide(4100, INT, 0);
        for (int n : new int[] {4096, 4097, -1, MIN, MAX}) {
            y.cut(22);
            add(y, CLOSURE, 7, n);
            y.start(0, 0);
            dueStepsTo(22, y);
            dueNothing("CLOSURE " + n + " of 4,100 values", y, FAULT);
        }
        for (int i : new int[] {4094, 4095}) {
            CellEngine z = wide(4095, CLOSURE, 29, 4095);
            z.cut(z.count(0) - 1);
            add(z, INT, 0, CALL, STOP, FREE, i, RETURN);
            due("FREE " + i + " of 4,095", run(z, 0, 0), i == 4094 ? STOPPED : FAULT);
            due("FREE " + i + " of 4,095", z.look(NONE, 0, 1), i == 4094 ? 4094 : 0);
        }
        for (int i : new int[] {4094, 4095}) {
            CellEngine z = wide(4095, CLOSURE, 29, 4095);
            z.cut(z.count(0) - 1);
            add(z, INT, -9, PATCH, i, STOP);
            due("PATCH " + i + " of 4,095", run(z, 0, 0), i == 4094 ? STOPPED : FAULT);
            due("PATCH " + i + " of 4,095", z.look(NONE, 0, 2), i == 4094 ? 4095 : 0);
        }
    }

    private static void switchSizes() {
        where = "SWITCH n (0 .. 255): goes on at ax, or at a if x is not 0 .. n - 1";
        for (int n : new int[] {0, 1, 2, 255}) {
            for (int x : new int[] {MIN, -1, 0, 1, n - 2, n - 1, n, n + 1, 256, MAX}) {
                CellEngine y = with(INT, x, SWITCH, n);
                for (int k = 0; k <= n; k++) {
                    y.code(1000 + k);
                }
                upTo(2, 0, y);
                dueDone("SWITCH " + n + " on " + x, y);
                due("SWITCH " + n + " on " + x, y.count(10), 1000 + (x >= 0 && x < n ? x : n));
                due("values", y.count(7), 0);
            }
        }
        for (int n : new int[] {-1, MIN, 256, 257, MAX}) {
            CellEngine y = with(INT, 0, SWITCH, n);
            for (int k = 0; k <= 300; k++) {
                y.code(0);
            }
            dueNothing("SWITCH " + n, upTo(2, 0, y), FAULT);
        }
        for (int less = 0; less <= 1; less++) {
            CellEngine y = with(INT, 0, SWITCH, 255);
            for (int k = 0; k <= 255 - less; k++) {
                y.code(2);
            }
            upTo(2, 0, y);
            if (less == 0) {
                dueDone("all its places are there", y);
            } else {
                dueNothing("its last place is beyond the code", y, FAULT);
            }
        }
        for (int x : new int[] {0, 1, -1, MIN, MAX}) {
            CellEngine y = with(INT, x, UNLESS, 77, TICK);
            dueDone("UNLESS " + x, upTo(2, 0, y));
            due("UNLESS " + x, y.count(10), x == 0 ? 77 : 4);
        }
    }

    private static void goesOnBeyond() {
        where = "fault: goes on beyond the code (at the next one)";
        for (int place : new int[] {-1, MIN, 50, 262144, MAX}) {
            dueBeyond("JUMP", place, 0, with(JUMP, place));
            dueBeyond("UNLESS", place, 2, with(INT, 0, UNLESS, place));
            dueBeyond("SWITCH", place, 2, with(INT, 0, SWITCH, 1, place, 0));
            dueBeyond("SWITCH else", place, 2, with(INT, 1, SWITCH, 1, 0, place));
            dueBeyond("CALL", place, 5, with(CLOSURE, place, 0, INT, 0, CALL));
            dueBeyond("TAIL", place, 5, with(CLOSURE, place, 0, INT, 0, TAIL));
            dueBeyond("RAISE", place, 4, with(HANDLE, place, NAME, 0, RAISE));
        }
        dueBeyond("the end", 2, 0, with(INT, 1));
        // CALL is the last word, so RETURN at 4 goes on behind it.
        dueBeyond("RETURN", 11, 4, with(JUMP, 5, LOCAL, 0, RETURN, CLOSURE, 2, 0, INT, 0, CALL));
        CellEngine x = with(JUMP, 2);
        dueDone("the code's end", upTo(0, 0, x));
        add(x, TICK);
        due("code that comes in time", x.step(1), NO_FUEL);
        // The last word of the code is the last place.
        CellEngine y = with(INT, 8, JUMP, 4, STOP);
        due("the last place", run(y, 0, 0), STOPPED);
    }

    private static void dueBeyond(String what, int place, int at, CellEngine x) {
        upTo(at, 0, x);
        dueDone(what + " to " + place, x);
        due(what + " to " + place, x.count(10), place);
        dueNothing("at " + place, x, FAULT);
    }

    private static void returnOfTheFirstFrame() {
        where = "RETURN (not of the first frame)";
        dueNothing("the first frame", upTo(2, 0, with(INT, 1, RETURN)), FAULT);
        dueNothing("the first frame behind TAIL", upTo(8, 0, with(CLOSURE, 6, 0, INT, 1, TAIL, LOCAL, 0, RETURN)), FAULT);
        CellEngine x = with(CLOSURE, 7, 0, INT, 1, CALL, RETURN, LOCAL, 0, RETURN);
        upTo(9, 0, x);
        dueDone("the second one", x);
        due("frames", x.count(6), 1);
        due("where the one below goes on", x.count(10), 6);
        dueNothing("now the first one", x, FAULT);
        due("what was returned is there", x.count(7), 1);
    }

    private static void handlersMustBeGone() {
        where = "the frame's handlers must be gone at 18, 19";
        int[] call = {CLOSURE, 6, 0, INT, 1, CALL};
        dueNothing("RETURN", upTo(10, 0, with(join(call, HANDLE, 0, LOCAL, 0, RETURN))), FAULT);
        dueDone("RETURN when it is gone", upTo(11, 0, with(join(call, HANDLE, 0, UNHANDLE, LOCAL, 0, RETURN))));
        dueNothing("RETURN with one of two gone",
            upTo(13, 0, with(join(call, HANDLE, 0, HANDLE, 0, UNHANDLE, LOCAL, 0, RETURN))), FAULT);
        int[] self = {CLOSURE, 0, 0, INT, 1};
        dueNothing("TAIL", upTo(7, 0, with(join(op(HANDLE, 0), join(self, TAIL)))), FAULT);
        dueDone("TAIL when it is gone", upTo(8, 0, with(join(op(HANDLE, 0, UNHANDLE), join(self, TAIL)))));
        dueDone("CALL", upTo(7, 0, with(join(op(HANDLE, 0), join(self, CALL)))));
        // A handler of the frame below is no hindrance.
        int[] below = {HANDLE, 0, CLOSURE, 8, 0, INT, 1, CALL};
        dueDone("RETURN above another's", upTo(10, 0, with(join(below, LOCAL, 0, RETURN))));
        dueDone("TAIL above another's", upTo(13, 0, with(join(below, CLOSURE, 8, 0, INT, 1, TAIL))));
        dueNothing("UNHANDLE of another's", upTo(8, 0, with(join(below, UNHANDLE))), FAULT);
        dueNothing("UNHANDLE of none", upTo(0, 0, with(UNHANDLE)), FAULT);
        dueDone("UNHANDLE of its own", upTo(10, 0, with(join(below, HANDLE, 0, UNHANDLE))));
        dueNothing("UNHANDLE once more", upTo(11, 0, with(join(below, HANDLE, 0, UNHANDLE, UNHANDLE))), FAULT);
    }

    private static void handlerHeights() {
        where = "RAISE: its stack has the handler's height (with less behind what is taken it is a fault)";
        // Two values below the handler: two, three and four of them are enough, one and none are not.
        int[] made = {INT, 1, INT, 2, HANDLE, 70};
        dueNothing("two less", upTo(10, 0, with(join(made, POP, POP, NAME, 3, RAISE))), FAULT);
        dueNothing("one less", upTo(9, 0, with(join(made, POP, NAME, 3, RAISE))), FAULT);
        dueCaught("as much", upTo(8, 0, with(join(made, NAME, 3, RAISE))), 3);
        dueCaught("one more", upTo(10, 0, with(join(made, INT, 9, NAME, 3, RAISE))), 3);
        dueNothing("what is taken does not count", upTo(6, 0, with(INT, 1, NAME, 3, HANDLE, 70, RAISE)), FAULT);
        dueCaught("none below", upTo(4, 0, with(HANDLE, 70, NAME, 3, RAISE)), 1);
        where = "primitives raise as 28 does, behind what they take";
        int[] names = {NAME, 2, SETGLOBAL, 2, NAME, 3, SETGLOBAL, 3, NAME, 4, SETGLOBAL, 4};
        dueNothing("both below", upTo(18, 0, with(join(names, INT, 1, INT, 0, HANDLE, 70, PRIM, 5))), FAULT);
        dueNothing("one below", upTo(18, 0, with(join(names, INT, 1, HANDLE, 70, INT, 0, PRIM, 5))), FAULT);
        dueCaught("none below", upTo(18, 0, with(join(names, HANDLE, 70, INT, 1, INT, 0, PRIM, 5))), 1);
        dueNothing("one of one below", upTo(16, 0, with(join(names, INT, MIN, HANDLE, 70, PRIM, 3))), FAULT);
        dueCaught("none of one below", upTo(16, 0, with(join(names, HANDLE, 70, INT, MIN, PRIM, 3))), 1);
        for (int below = 0; below <= 3; below++) {
            int[] code = names;
            int[][] parts = {{TEXT, 0}, {INT, -1}, {INT, 0}};
            for (int k = 0; k < 3; k++) {
                code = join(k == below ? join(code, HANDLE, 70) : code, parts[k]);
            }
            code = below == 3 ? join(code, HANDLE, 70) : code;
            CellEngine x = with(join(code, PRIM, 30));
            text(x, "abc");
            upTo(code.length, 0, x);
            if (below == 0) {
                dueCaught("30 with none below", x, 1);
            } else {
                dueNothing("30 with " + below + " below", x, FAULT);
            }
        }
        where = "RAISE: the stack of the handler's frame, which is not the top one";
        dueNothing("lower by CALL", upTo(10, 0, with(CLOSURE, 8, 0, INT, 1, HANDLE, 70, CALL, NAME, 3, RAISE)), FAULT);
        dueCaught("as high", upTo(10, 0, with(HANDLE, 70, CLOSURE, 8, 0, INT, 1, CALL, NAME, 3, RAISE)), 1);
        dueCaught("higher", upTo(14, 0, with(HANDLE, 70, INT, 6, INT, 7, CLOSURE, 12, 0, INT, 1, CALL, NAME, 3, RAISE)), 1);
    }

    /** The next instruction raises; then the handler's place 70 is the next one, with so many values there. */
    private static void dueCaught(String what, CellEngine x, int values) {
        int handlers = x.count(8);
        dueDone(what, x);
        due(what + ": place", x.count(10), 70);
        due(what + ": values", x.count(7), values);
        due(what + ": handlers", x.count(8), handlers - 1);
        due(what + ": frames", x.count(6), 1);
    }

    private static void raiseEnds() {
        where = "RAISE: when there is no handler, the run ends with p as its result";
        CellEngine x = dueEnd("a name", RAISED, 3, 2, NAME, 65535, RAISE);
        dueLook(x, NONE, 0, 1, 65535, 0);
        due("what is taken is gone", x.count(7), 0);
        CellEngine y = dueEnd("a packet", RAISED, 6, 4, NAME, 0, INT, 5, PACKET, RAISE);
        dueLook(y, NONE, 0, 7, 0, 1);
        dueLook(y, NONE, 1, 0, 5, 0);
        where = "RAISE: the newest handler goes, the depth is the handler's";
        CellEngine z = with(DEPTH, 2, HANDLE, 14, DEPTH, 3, HANDLE, 13, DEPTH, -4, NAME, 1, RAISE, RAISE, TICK);
        upTo(12, 0, z);
        due("depth", z.count(5), 1);
        dueDone("the newest one", z);
        due("depth", z.count(5), 5);
        due("handlers", z.count(8), 1);
        dueDone("the one below", z);
        due("depth", z.count(5), 2);
        due("handlers", z.count(8), 0);
        due("values", z.count(7), 1);
        // A handler's depth may be above a limit that has come since.
        CellEngine w = with(DEPTH, 9, HANDLE, 9, DEPTH, -9, NAME, 1, RAISE, TICK);
        upTo(8, 0, w);
        w.limits(0, 0, 0);
        dueDone("no limit is looked at", w);
        due("depth", w.count(5), 9);
    }

    private static void ticks() {
        where = "TICK: when the fuel is 0 the run ends for want of it; otherwise it is one less, ticks one more";
        for (int fuel : new int[] {0, 1, 2}) {
            CellEngine x = with(TICK, JUMP, 0);
            x.start(0, fuel);
            due("on", x.step(2 * fuel), ON);
            due("fuel", x.count(2), 0);
            due("ticks", x.count(3), fuel);
            dueNothing("TICK", x, NO_FUEL);
        }
        CellEngine y = with(TICK, JUMP, 0);
        due("1,000,000", run(y, 0, 1000000), NO_FUEL);
        due("ticks", y.count(3), 1000000);
        due("fuel", y.count(2), 0);
        due("done", y.count(11), 2000000);
    }

    private static void made() {
        where = "MAKE n (0 or more): for want of room when they are more than their limit";
        CellEngine x = with(MAKE, 0, MAKE, 7, MAKE, 0, MAKE, 1);
        x.limits(0, 7, 0);
        upTo(2, 0, x);
        dueDone("up to the limit", x);
        dueDone("none more", x);
        due("made", x.count(4), 7);
        dueNothing("one more", x, NO_ROOM);
        CellEngine y = with(MAKE, MAX, MAKE, 1);
        y.limits(0, MAX, 0);
        upTo(0, 0, y);
        dueDone("the largest int", y);
        dueNothing("one more", y, NO_ROOM);
        CellEngine z = with(MAKE, 1, MAKE, MAX);
        z.limits(0, MAX, 0);
        dueNothing("ints do not go round", upTo(2, 0, z), NO_ROOM);
        for (int n : new int[] {-1, MIN}) {
            dueNothing("MAKE " + n, upTo(2, 0, with(MAKE, 5, MAKE, n)), FAULT);
        }
    }

    private static void depths() {
        where = "DEPTH n: for want of room above its limit; a fault below 0";
        CellEngine x = with(DEPTH, 7, DEPTH, -7, DEPTH, 7, DEPTH, 1);
        x.limits(0, 0, 7);
        upTo(2, 0, x);
        dueDone("down to 0", x);
        due("depth", x.count(5), 0);
        dueDone("up to the limit", x);
        due("depth", x.count(5), 7);
        dueNothing("above it", x, NO_ROOM);
        for (int n : new int[] {-8, -9, MIN, MIN + 7}) {
            CellEngine y = with(DEPTH, 7, DEPTH, n);
            dueNothing("DEPTH " + n, upTo(2, 0, y), FAULT);
        }
        dueNothing("-1 at first", upTo(0, 0, with(DEPTH, -1)), FAULT);
        CellEngine z = with(DEPTH, MAX, DEPTH, -MAX, DEPTH, 1, DEPTH, MAX);
        z.limits(0, 0, MAX);
        upTo(0, 0, z);
        dueDone("the largest int", z);
        dueDone("and back", z);
        dueDone("1", z);
        dueNothing("ints do not go round", z, NO_ROOM);
    }

    private static void localsNumbers() {
        where = "LOCALS n (0 .. 16383): the stack is empty, n locals, new ones being scalars 0";
        CellEngine x = with(LOCALS, 2, INT, 5, STORE, 0, INT, 6, STORE, 1, INT, 1, INT, 2);
        add(x, LOCALS, 1, LOCAL, 0, LOCALS, 3, LOCAL, 1, LOCAL, 2, LOCAL, 0, RECORD, 3, STOP);
        upTo(14, 0, x);
        due("values", x.count(7), 4);
        dueDone("fewer", x);
        due("values", x.count(7), 1);
        x.step(1);
        dueDone("more", x);
        due("values", x.count(7), 3);
        due("stop", x.step(9), STOPPED);
        dueLook(x, NONE, 1, 0, 0, 0);
        dueLook(x, NONE, 2, 0, 0, 0);
        dueLook(x, NONE, 3, 0, 5, 0);
        CellEngine y = with(LOCALS, 16383, INT, 5, STORE, 16382, LOCAL, 16382, LOCAL, 0, RECORD, 2, LOCALS, 0, LOCAL, 0);
        upTo(12, 0, y);
        due("values", y.count(7), 16384);
        dueDone("LOCALS 0", y);
        due("values", y.count(7), 0);
        dueNothing("none is left", y, FAULT);
        // The frame below keeps its locals and its stack.
        CellEngine z = with(LOCALS, 2, INT, 8, CLOSURE, 10, 0, INT, 1, CALL, LOCALS, 0, INT, 3, RETURN, TICK);
        upTo(10, 0, z);
        dueDone("in the frame above", z);
        due("values", z.count(7), 3);
        due("return", z.step(2), ON);
        due("values", z.count(7), 4);
    }

    private static void names() {
        where = "NAME k (0 .. 65535): a new exception name told by k";
        for (int k : new int[] {0, 1, 65534, 65535}) {
            CellEngine x = with(NAME, k, DUP, SETGLOBAL, 1, INT, 9, PACKET, DUP, SETGLOBAL, 2, NAMEOF, STOP);
            due("run", run(x, 0, 0), STOPPED);
            dueLook(x, 1, 0, 1, k, 0);
            dueLook(x, 2, 0, 7, k, 1);
            due("the packet's", x.same(NONE, 0, 1, 0), true);
            x.cut(2);
            add(x, STOP);
            due("run", run(x, 0, 0), STOPPED);
            due("a new one", x.same(NONE, 0, 1, 0), false);
        }
    }

    /** Values that were compared, and found unequal, say nothing of those compared next. */
    private static void equalityAnew() {
        // Globals 1, 2, 3 are records of 1, 1, 2.
        int[] made = {INT, 1, RECORD, 1, SETGLOBAL, 1, INT, 1, RECORD, 1, SETGLOBAL, 2, INT, 2, RECORD, 1, SETGLOBAL, 3};
        for (int first = 1; first <= 3; first++) {
            for (int second = 1; second <= 3; second++) {
                for (int third = 1; third <= 3; third++) {
                    int[] pairs = {GLOBAL, first, GLOBAL, first, RECORD, 2, GLOBAL, second, GLOBAL, third, RECORD, 2, EQUAL};
                    boolean alike = (first == 3) == (second == 3) && (first == 3) == (third == 3);
                    CellEngine x = with(join(made, pairs));
                    add(x, GLOBAL, 1, GLOBAL, 2, EQUAL, GLOBAL, 2, GLOBAL, 3, EQUAL, GLOBAL, 3, GLOBAL, 1, EQUAL, RECORD, 4, STOP);
                    due("run", run(x, 0, 0), STOPPED);
                    int[] want = {alike ? 1 : 0, 1, 0, 0};
                    for (int k = 0; k < 4; k++) {
                        due(first + ", " + second + ", " + third + ": " + k, x.look(NONE, k + 1, 1), want[k]);
                    }
                }
            }
        }
    }

    private static void equality() {
        where = "EQUAL at its ends";
        CellEngine x = longest();
        x.cut(x.count(0) - 1);
        add(x, DUP, SETGLOBAL, 1, INT, 0, PRIM, 29, GLOBAL, 1, INT, 0, INT, 65534, PRIM, 30, SETGLOBAL, 2, POP);
        add(x, GLOBAL, 2, INT, '7', PRIM, 29, PRIM, 27, GLOBAL, 1, EQUAL);
        add(x, GLOBAL, 2, INT, '8', PRIM, 29, PRIM, 27, GLOBAL, 1, EQUAL, GLOBAL, 2, GLOBAL, 1, EQUAL, RECORD, 3, STOP);
        due("run", run(x, 0, 0), STOPPED);
        due("the longest strings", x.look(NONE, 1, 1), 1);
        due("with another last byte", x.look(NONE, 2, 1), 0);
        due("one byte shorter", x.look(NONE, 3, 1), 0);
        CellEngine y = new CellEngine();
        text(y, "");
        add(y, TEXT, 0, TEXT, 0, EQUAL, TEXT, 0, TEXT, 0, SAME, TEXT, 0, INT, 0, EQUAL, RECORD, 3, STOP);
        due("run", run(y, 0, 0), STOPPED);
        due("strings without bytes", y.look(NONE, 1, 1), 1);
        due("are not the same", y.look(NONE, 2, 1), 0);
        due("nor equal to a scalar", y.look(NONE, 3, 1), 0);
        for (int n = 1; n <= 13; n++) {
            String bytes = "abcbefgcijkfm".substring(0, n);
            for (int k = 0; k < n; k++) {
                CellEngine z = withTexts(bytes, bytes.substring(0, k) + "\u00ff" + bytes.substring(k + 1), TEXT, 0, TEXT, 1, EQUAL);
                add(z, TEXT, 0, TEXT, 0, EQUAL, RECORD, 2, STOP);
                due("run", run(z, 0, 0), STOPPED);
                due(n + " bytes, byte " + k + " another", z.look(NONE, 1, 1), 0);
                due(n + " bytes, all alike", z.look(NONE, 2, 1), 1);
            }
        }
        equalityAnew();
        CellEngine w = withTexts("ab", "", TEXT, 0, PRIM, 41, INT, 'a', INT, 'b', INT, 0, RECORD, 2, BUILD, 1, RECORD, 2, BUILD, 1);
        add(w, DUP, SETGLOBAL, 1, EQUAL, GLOBAL, 1, TEXT, 0, PRIM, 41, EQUAL, RECORD, 2, STOP);
        due("run", run(w, 0, 0), STOPPED);
        due("the list of 41 and one made by hand", w.look(NONE, 1, 1), 1);
        due("one made by hand and the list of 41", w.look(NONE, 2, 1), 1);
        dueScalar("tags", 0, INT, 7, BUILD, MIN, INT, 7, BUILD, MAX, EQUAL, STOP);
        dueScalar("tags", 1, INT, 7, BUILD, MIN, INT, 7, BUILD, MIN, EQUAL, STOP);
        dueScalar("scalars", 0, INT, MIN, INT, MAX, EQUAL, STOP);
        dueScalar("scalars", 1, INT, MIN, INT, MIN, EQUAL, STOP);
        dueScalar("a scalar and something constructed", 0, INT, 7, INT, 0, BUILD, 7, EQUAL, STOP);
        dueScalar("something constructed and a scalar", 0, INT, 0, BUILD, 7, INT, 7, EQUAL, STOP);
    }
}
