/** What the tests share: the instructions' names, short ways to write and run code, and what is due of it. */
class Checks {
    static final int STOP = 0, INT = 1, TEXT = 2, LOCAL = 3, STORE = 4, FREE = 5, GLOBAL = 6, SETGLOBAL = 7,
        POP = 8, DUP = 9, RECORD = 10, FIELD = 11, BUILD = 12, ARGUMENT = 13, TAG = 14, CLOSURE = 15, PATCH = 16,
        CALL = 17, TAIL = 18, RETURN = 19, JUMP = 20, UNLESS = 21, SWITCH = 22, REF = 23, GET = 24, PUT = 25,
        HANDLE = 26, UNHANDLE = 27, RAISE = 28, NAME = 29, PACKET = 30, NAMEOF = 31, SAME = 32, EQUAL = 33,
        PRIM = 34, TICK = 35, MAKE = 36, LOCALS = 37, DEPTH = 38, SWAP = 39;
    static final int STOPPED = 0, RAISED = 1, NO_FUEL = 2, NO_ROOM = 3, FAULT = 4, ON = 5;
    static final int NONE = CellEngine.NONE, FULL = CellEngine.FULL;
    static final int MIN = Integer.MIN_VALUE, MAX = Integer.MAX_VALUE;
    static int wrong = 0;
    static String where = "";

    static void due(String what, long got, long want) {
        if (got != want) {
            wrong++;
            System.out.println(where + ": " + what + " answered " + got + ", due is " + want);
        }
    }

    static void due(String what, boolean got, boolean want) {
        due(what, got ? 1 : 0, want ? 1 : 0);
    }

    static CellEngine with(int... words) {
        CellEngine x = new CellEngine();
        add(x, words);
        return x;
    }

    static void add(CellEngine x, int... words) {
        for (int word : words) {
            x.code(word);
        }
    }

    static int text(CellEngine x, String bytes) {
        for (int i = 0; i < bytes.length(); i++) {
            x.put(bytes.charAt(i));
        }
        return x.constant();
    }

    static int run(CellEngine x, int place, int fuel) {
        x.start(place, fuel);
        int status = ON;
        for (int i = 0; i < 40 && status == ON; i++) {
            status = x.step(100000);
        }
        return status;
    }

    /** A run of this code ends so, at this place, with so many instructions done. */
    static CellEngine dueEnd(String what, int status, int place, int done, int... words) {
        CellEngine x = with(words);
        due(what + " ends", run(x, 0, 1000000), status);
        due(what + " at", x.count(10), place);
        due(what + " done", x.count(11), done);
        if (status >= NO_FUEL) {
            due(what + " result kind", x.look(NONE, 0, 0), 0);
            due(what + " result", x.look(NONE, 0, 1), 0);
        }
        return x;
    }

    static void dueFault(String what, int place, int done, int... words) {
        dueEnd(what, FAULT, place, done, words);
    }

    static void dueScalar(String what, int want, int... words) {
        CellEngine x = with(words);
        due(what + " ends", run(x, 0, 1000000), STOPPED);
        due(what + " kind", x.look(NONE, 0, 0), 0);
        due(what, x.look(NONE, 0, 1), want);
    }

    static int[] join(int[] first, int... second) {
        int[] all = java.util.Arrays.copyOf(first, first.length + second.length);
        System.arraycopy(second, 0, all, first.length, second.length);
        return all;
    }

    static String string(CellEngine x, int i, long path) {
        if (x.look(i, path, 0) != 6) {
            return "no string";
        }
        StringBuilder b = new StringBuilder();
        for (int k = 0; k < x.look(i, path, 1); k++) {
            b.append((char) x.byteOf(i, path, k));
        }
        return b.toString();
    }

    static void dueString(String what, CellEngine x, int i, String want) {
        String got = string(x, i, 0);
        if (!got.equals(want)) {
            wrong++;
            System.out.println(where + ": " + what + " is '" + got + "', due is '" + want + "'");
        }
    }

    static void dueLook(CellEngine x, int i, long path, int kind, int number, int parts) {
        String what = i + " by " + Long.toHexString(path);
        due("kind of " + what, x.look(i, path, 0), kind);
        due("number of " + what, x.look(i, path, 1), number);
        due("parts of " + what, x.look(i, path, 2), parts);
    }

    static final int[] RAISES = {
        NAME, 102, SETGLOBAL, 2, NAME, 103, SETGLOBAL, 3, NAME, 104, SETGLOBAL, 4, NAME, 105, SETGLOBAL, 5,
        NAME, 106, SETGLOBAL, 6};

    static void duePrimitive(int p, int v, int w, int want) {
        dueScalar("primitive " + p + " of " + v + ", " + w, want, INT, v, INT, w, PRIM, p, STOP);
    }

    static void duePrimitive(int p, int v, int want) {
        dueScalar("primitive " + p + " of " + v, want, INT, v, PRIM, p, STOP);
    }

    /** Raises the global's name; without that name it is a fault, as it is with a packet. */
    static void dueRaises(int p, int global, int... operands) {
        String what = "primitive " + p + " raises " + global;
        int[] code = {};
        for (int operand : operands) {
            code = join(code, INT, operand);
        }
        CellEngine x = with(join(RAISES, join(code, PRIM, p, STOP)));
        due(what + " ends", run(x, 0, 0), RAISED);
        due(what, x.same(NONE, 0, global, 0), true);
        due(what, x.look(NONE, 0, 1), 100 + global);
        due(what + " takes", x.count(7), 0);
        dueFault(what + " not a scalar", code.length, operands.length, join(code, PRIM, p, STOP));
        int[] packet = {NAME, 1, INT, 2, PACKET, SETGLOBAL, global};
        dueFault(what + " nor a packet", 7 + code.length, 4 + operands.length, join(packet, join(code, PRIM, p, STOP)));
        int[] handled = join(RAISES, INT, 55, HANDLE, 26 + code.length);
        CellEngine y = with(join(handled, join(code, PRIM, p, RECORD, 2, STOP)));
        due(what + " is caught", run(y, 0, 0), STOPPED);
        due(what + " is caught", y.look(NONE, 1, 1), 55);
        due(what + " is caught", y.look(NONE, 2, 1), 100 + global);
    }

    static CellEngine withTexts(String v, String w, int... words) {
        CellEngine x = new CellEngine();
        text(x, v);
        text(x, w);
        add(x, RAISES);
        add(x, words);
        return x;
    }

    static void dueText(String what, String want, int made, CellEngine x) {
        due(what + " ends", run(x, 0, 0), STOPPED);
        dueString(what, x, NONE, want);
        due(what + " made", x.count(4), made);
    }

    static void dueNumber(String what, int want, CellEngine x) {
        due(what + " ends", run(x, 0, 0), STOPPED);
        due(what, x.look(NONE, 0, 0), 0);
        due(what, x.look(NONE, 0, 1), want);
        due(what + " made", x.count(4), 0);
    }

    static void dueNamed(String what, int global, CellEngine x) {
        due(what + " ends", run(x, 0, 0), RAISED);
        due(what, x.same(NONE, 0, global, 0), true);
        due(what + " made", x.count(4), 0);
    }

    /** Puts 0 .. n - 1 on the stack, does the last words and stops. */
    static CellEngine wide(int n, int... last) {
        CellEngine x = with(LOCALS, 1, LOCAL, 0, LOCAL, 0, INT, 1, PRIM, 0, STORE, 0, LOCAL, 0, INT, n, PRIM, 7);
        add(x, UNLESS, 22, JUMP, 2);
        add(x, last);
        x.code(STOP);
        due("wide run", run(x, 0, 100), STOPPED);
        return x;
    }

    /** Its result is a string of 65,535 bytes. */
    static CellEngine longest() {
        CellEngine x = new CellEngine();
        text(x, "12345678");
        add(x, TEXT, 0);
        for (int k = 0; k < 12; k++) {
            add(x, DUP, PRIM, 27);
        }
        add(x, DUP, INT, 0, INT, 32767, PRIM, 30, PRIM, 27, STOP);
        due("longest run", run(x, 0, 0), STOPPED);
        return x;
    }

    private static final int[] GLOBALS_SEEN = {NONE, 0, 1, 2, 3, 10, 2047};

    /** What can be asked of an engine without changing it: all counts, the output's ends, and some globals. */
    static int[] seen(CellEngine x) {
        int[] row = {};
        for (int what = 0; what <= 11; what++) {
            row = join(row, x.count(what));
        }
        int last = x.count(9);
        row = join(row, x.out(0), x.out(last - 1), x.out(last));
        for (int i : GLOBALS_SEEN) {
            row = join(row, x.look(i, 0, 0), x.look(i, 0, 1), x.look(i, 0, 2));
        }
        return row;
    }

    static void dueUnchanged(String what, CellEngine x, int[] before) {
        int[] now = seen(x);
        for (int k = 0; k < before.length; k++) {
            due(what + " changes nothing: " + (k < 12 ? "count " + k : "number " + k), now[k], before[k]);
        }
    }

    /** Starts a run and goes on until this place is the next one; the code before it goes straight there. */
    static CellEngine upTo(int place, int fuel, CellEngine x) {
        x.start(0, fuel);
        int status = ON;
        for (int turn = 0; turn < 200 && x.count(10) != place && status == ON; turn++) {
            status = x.step(1);
        }
        due("on the way to " + place, status, ON);
        due("before the instruction", x.count(10), place);
        return x;
    }

    /** The next instruction ends the run so and does nothing; behind its end the same is told again. */
    static void dueNothing(String what, CellEngine x, int status) {
        int[] before = seen(x);
        due(what + " ends", x.step(1), status);
        dueUnchanged(what, x, before);
        due(what + " ends, told again", x.step(100000), status);
        due(what + " ends, told again", x.step(0), status);
        dueUnchanged(what + " again", x, before);
        due(what + " result's kind", x.look(NONE, 0, 0), 0);
        due(what + " result", x.look(NONE, 0, 1), 0);
    }

    /** The next instruction is done, and the run is on. */
    static void dueDone(String what, CellEngine x) {
        int done = x.count(11);
        due(what + " goes", x.step(1), ON);
        due(what + " is done", x.count(11), done + 1);
    }

    static void end() {
        System.out.println(wrong == 0 ? "all answers are as due" : wrong + " answers are not as due");
        if (wrong != 0) {
            System.exit(1);
        }
    }
}
