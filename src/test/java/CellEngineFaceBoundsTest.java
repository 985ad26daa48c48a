/**
 * The bounds of promises 1 to 17, each sentence on either side of its bound: the least and the largest argument that
 * is taken, the ones beside them that are refused, and what stays then. Some bounds (FULL) lie behind more calls than
 * an object is promised for; they are tested all the same.
 */
public final class CellEngineFaceBoundsTest extends Checks {
    public static void main(String[] args) {
        newObject();
        firstLimits();
        calls();
        codeWords();
        codeFull();
        cutSizes();
        cutWhileOn();
        putBytes();
        putFull();
        constantsFull();
        constantBytesFull();
        startArguments();
        startForgets();
        stepArguments();
        stepEnds();
        stepBehindTheEnd();
        lookGlobals();
        lookResult();
        lookPaths();
        lookWideParts();
        lookWhat();
        byteOfEnds();
        sameEnds();
        outEnds();
        outFull();
        limitsArguments();
        limitsRefused();
        collectArguments();
        reachedEnds();
        saveEnds();
        saveWithoutARun();
        restoreEnds();
        restoreWithoutASave();
        countArguments();
        countBehindTheEnd();
        countBeforeARun();
        end();
    }

    private static void newObject() {
        where = "promise 1: no code, no constants; globals 0";
        CellEngine x = new CellEngine();
        due("words", x.count(0), 0);
        due("constants", x.count(1), 0);
        for (int i = 0; i < 2048; i++) {
            dueLook(x, i, 0, 0, 0, 0);
        }
        due("first word", x.code(TEXT), 1);
        due("first constant has number", new CellEngine().constant(), 0);
        x.code(0);
        dueNothing("TEXT 0", upTo(0, 0, x), FAULT);
        CellEngine y = with();
        dueNothing("no instruction", upTo(0, 0, y), FAULT);
    }

    private static void firstLimits() {
        where = "promise 1: limits: 65,536 cells reached, 1,000,000 made, depth 2,000";
        CellEngine x = with(INT, 0, SETGLOBAL, 1, TICK, GLOBAL, 1, REF, SETGLOBAL, 1, JUMP, 4);
        due("65,534 cells", run(x, 0, 32767), NO_FUEL);
        due("65,534 cells", x.reached(), 65534);
        x.cut(0);
        add(x, CLOSURE, 0, 0, CLOSURE, 0, 0, CLOSURE, 0, 0);
        upTo(3, 0, x);
        dueDone("cell 65,536", x);
        dueNothing("cell 65,537", x, NO_ROOM);
        CellEngine y = with(MAKE, 999999, MAKE, 1, MAKE, 1);
        upTo(2, 0, y);
        dueDone("1,000,000 made", y);
        dueNothing("1,000,001 made", y, NO_ROOM);
        CellEngine z = with(DEPTH, 1999, DEPTH, 1, DEPTH, 1);
        upTo(2, 0, z);
        dueDone("depth 2,000", z);
        dueNothing("depth 2,001", z, NO_ROOM);
    }

    private static void calls() {
        where = "an object is used for at most 512 calls";
        CellEngine x = new CellEngine();
        for (int i = 1; i <= 255; i++) {
            due("call " + (2 * i - 1), x.code(JUMP), 2 * i - 1);
            due("call " + 2 * i, x.code(2 * i), 2 * i);
        }
        due("call 511", x.start(0, 0), true);
        due("call 512", x.step(100000), FAULT);
        CellEngine y = new CellEngine();
        for (int i = 1; i <= 511; i++) {
            y.collect(i);
        }
        due("call 512", y.collect(0), false);
    }

    private static void codeWords() {
        where = "promise 2: an int comes to the end of the code (also while a run is on): how many there are";
        CellEngine x = new CellEngine();
        due("an int", x.code(INT), 1);
        due("the least int", x.code(MIN), 2);
        due("an int", x.code(INT), 3);
        due("the largest int", x.code(MAX), 4);
        due("start", x.start(0, 0), true);
        due("two", x.step(2), ON);
        due("while on", x.code(RECORD), 5);
        due("while on", x.code(2), 6);
        due("one more", x.step(1), ON);
        due("while on", x.code(STOP), 7);
        due("stop", x.step(1), STOPPED);
        dueLook(x, NONE, 1, 0, MIN, 0);
        dueLook(x, NONE, 2, 0, MAX, 0);
        due("behind the end", x.code(-1), 8);
        due("the end stays", x.step(1), STOPPED);
    }

    private static void codeFull() {
        where = "promise 2: FULL when there are 262,144";
        CellEngine x = new CellEngine();
        for (int i = 1; i <= 262142; i++) {
            x.code(STOP);
        }
        due("262,143", x.code(INT), 262143);
        due("262,144", x.code(77), 262144);
        int[] before = seen(x);
        due("262,145", x.code(STOP), FULL);
        due("262,145 again", x.code(MIN), FULL);
        dueUnchanged("FULL", x, before);
        due("start", x.start(262142, 0), true);
        due("the last operand is there", x.step(1), ON);
        due("FULL while on", x.code(STOP), FULL);
        due("nothing came behind it", x.step(1), FAULT);
        due("place", x.count(10), 262144);
        due("cut", x.cut(262143), 262143);
        due("place for one", x.code(88), 262144);
        due("no more", x.code(88), FULL);
    }

    private static void cutSizes() {
        where = "promise 3: the code has only its first ints any more; NONE when it has not so many";
        CellEngine x = with(INT, 1, INT, 2, STOP);
        int[] before = seen(x);
        int[] refused = {6, 7, 262144, MAX, -1, -2, MIN};
        for (int size : refused) {
            due("cut " + size, x.cut(size), NONE);
            dueUnchanged("cut " + size, x, before);
        }
        due("all of them", x.cut(5), 5);
        due("still there", run(x, 0, 0), STOPPED);
        due("one less", x.cut(4), 4);
        due("no more so many", x.cut(5), NONE);
        due("STOP is gone", run(x, 0, 0), FAULT);
        due("at", x.count(10), 4);
        due("none left", x.cut(0), 0);
        due("none of none", x.cut(0), 0);
        due("one of none", x.cut(1), NONE);
        due("words", x.count(0), 0);
        due("first again", x.code(STOP), 1);
    }

    private static void cutWhileOn() {
        where = "promise 3: NONE, refused, when a run is on";
        CellEngine x = with(INT, 1, STOP, 0);
        due("before a run", x.cut(3), 3);
        x.start(0, 0);
        for (int turn = 0; turn < 2; turn++) {
            int[] before = seen(x);
            due("all", x.cut(3), NONE);
            due("none", x.cut(0), NONE);
            due("too many", x.cut(4), NONE);
            dueUnchanged("refused cut", x, before);
            x.step(1 - turn);
        }
        due("goes on", x.step(1), STOPPED);
        due("behind STOP", x.cut(2), 2);
        int[][] ends = {{RAISED, NAME, 1, RAISE}, {NO_FUEL, TICK}, {NO_ROOM, DEPTH, 9999}, {FAULT, POP}};
        for (int[] end : ends) {
            CellEngine y = with(java.util.Arrays.copyOfRange(end, 1, end.length));
            y.start(0, 0);
            due("on", y.cut(0), NONE);
            due("end", y.step(9), end[0]);
            due("behind " + end[0], y.cut(1), 1);
            y.start(0, 0);
            due("on again", y.cut(1), NONE);
            y.save();
            due("behind save", y.cut(1), 1);
            y.start(0, 0);
            y.restore();
            due("behind restore", y.cut(0), 0);
        }
    }

    private static void putBytes() {
        where = "promise 4: the bytes of eight, the lowest first, up to the first that is 0";
        int n = 0;
        CellEngine x = new CellEngine();
        due("none", x.put(0), 0);
        due("the least long has its lowest byte 0", x.put(Long.MIN_VALUE), 0);
        due("all but the lowest", x.put(0xFFFFFFFFFFFFFF00L), 0);
        for (int k = 1; k <= 8; k++) {
            // k bytes, then a 0, then bytes that do not count.
            long eight = 0x8877665544332211L & (k == 8 ? -1L : ~(0xFFL << 8 * k));
            n += k;
            due(k + " bytes", x.put(eight), n);
        }
        due("the largest long", x.put(Long.MAX_VALUE), n + 8);
        due("-1", x.put(-1), n + 16);
        due("1", x.put(1), n + 17);
        due("constant", x.constant(), 0);
        due("the next one has none yet", x.put(0), 0);
        add(x, TEXT, 0, STOP);
        due("run", run(x, 0, 0), STOPPED);
        due("length", x.look(NONE, 0, 1), n + 17);
        int at = 0;
        for (int k = 1; k <= 8; k++) {
            for (int i = 0; i < k; i++) {
                due("byte " + at, x.byteOf(NONE, 0, at++), 0x11 * (i + 1));
            }
        }
        due("byte 0 of the largest long", x.byteOf(NONE, 0, n), 255);
        due("byte 7 of the largest long", x.byteOf(NONE, 0, n + 7), 127);
        due("byte 7 of -1", x.byteOf(NONE, 0, n + 15), 255);
        due("last byte", x.byteOf(NONE, 0, n + 16), 1);
    }

    private static void putFull() {
        where = "promise 4: FULL, and nothing changes, when it would have more than 4,096";
        CellEngine w = new CellEngine();
        for (int i = 1; i <= 512; i++) {
            due("call " + i, w.put(0x4142434445464748L), 8 * i);
        }
        due("one more", w.put(0x41), FULL);
        CellEngine x = new CellEngine();
        for (int i = 1; i <= 511; i++) {
            x.put(0x0102030405060708L);
        }
        due("4,093", x.put(0x0908070605L), 4093);
        due("four more are too many", x.put(0x01010101L), FULL);
        due("nothing changed", x.put(0), 4093);
        due("eight more are too many", x.put(-1L), FULL);
        due("three more are not", x.put(0x0c0b0aL), 4096);
        due("one more is too many", x.put(0x20), FULL);
        due("none more is not", x.put(0), 4096);
        due("constant", x.constant(), 0);
        due("the next one begins anew", x.put(0x21), 1);
        add(x, TEXT, 0, STOP);
        due("run", run(x, 0, 0), STOPPED);
        due("length", x.look(NONE, 0, 1), 4096);
        due("byte 4,088", x.byteOf(NONE, 0, 4088), 5);
        due("byte 4,092", x.byteOf(NONE, 0, 4092), 9);
        due("byte 4,093", x.byteOf(NONE, 0, 4093), 10);
        due("byte 4,095", x.byteOf(NONE, 0, 4095), 12);
        due("byte 4,096", x.byteOf(NONE, 0, 4096), NONE);
    }

    private static void constantsFull() {
        where = "promise 5: what was put is a constant (perhaps without bytes): its number; FULL when there are 1,024";
        CellEngine x = new CellEngine();
        for (int k = 0; k < 1023; k++) {
            due("number", x.constant(), k);
        }
        due("a byte", x.put('y'), 1);
        due("number", x.constant(), 1023);
        due("count", x.count(1), 1024);
        due("1,025 without bytes", x.constant(), FULL);
        due("a byte", x.put('z'), 1);
        due("1,025 with a byte", x.constant(), FULL);
        due("what was put stays", x.put('z'), 2);
        due("count", x.count(1), 1024);
        add(x, TEXT, 1023, TEXT, 1022, TEXT, 0, RECORD, 3, SETGLOBAL, 10, TEXT, 1024);
        upTo(10, 0, x);
        dueNothing("no constant 1,024", x, FAULT);
        due("constant 1,023", x.look(10, 1, 1), 1);
        due("constant 1,023", x.byteOf(10, 1, 0), 'y');
        due("constant 1,022", x.look(10, 2, 1), 0);
        due("constant 0", x.look(10, 3, 1), 0);
    }

    private static CellEngine withConstantBytes(int total) {
        CellEngine x = new CellEngine();
        for (int left = total; left > 0; left -= Math.min(left, 4096)) {
            int n = Math.min(left, 4096);
            for (int i = 0; i < n / 8; i++) {
                x.put(0x6867666564636261L);
            }
            for (int i = 0; i < n % 8; i++) {
                x.put('1' + i);
            }
            x.constant();
        }
        return x;
    }

    private static void constantBytesFull() {
        where = "promise 5: FULL when there are with it more than 65,536 bytes in all (what was put stays)";
        CellEngine x = withConstantBytes(65536 - 3);
        due("16 constants", x.count(1), 16);
        due("three bytes", x.put(0x414243), 3);
        due("65,536 are not too many", x.constant(), 16);
        due("nor with none more", x.constant(), 17);
        due("a byte", x.put(0x44), 1);
        due("65,537 are too many", x.constant(), FULL);
        due("what was put stays", x.put(0x45), 2);
        due("again", x.constant(), FULL);
        due("count", x.count(1), 18);
        add(x, TEXT, 15, SETGLOBAL, 10, TEXT, 16, SETGLOBAL, 11, TEXT, 17, SETGLOBAL, 12, TEXT, 18);
        upTo(12, 0, x);
        dueNothing("no constant 18", x, FAULT);
        due("length", x.look(10, 0, 1), 4093);
        due("last byte", x.byteOf(10, 0, 4092), '5');
        dueString("constant 16", x, 11, "CBA");
        dueString("constant 17", x, 12, "");
        CellEngine y = withConstantBytes(65536 - 3);
        due("four bytes", y.put(0x41424344), 4);
        due("65,537 are too many", y.constant(), FULL);
        due("count", y.count(1), 16);
    }

    private static void startArguments() {
        where = "promise 6: false, refused, when the place is below 0 or fuel is not 0 .. 1,000,000";
        CellEngine x = with(INT, 1, SETGLOBAL, 1, TICK, MAKE, 2, DEPTH, 1, HANDLE, 0, INT, 5, JUMP, 11);
        int[][] refused = {{-1, 0}, {MIN, 0}, {0, -1}, {0, MIN}, {0, 1000001}, {0, MAX}, {-1, -1}, {-1, 1000000}};
        for (int[] r : refused) {
            due("start " + r[0] + ", " + r[1], x.start(r[0], r[1]), false);
            due("no run was begun", x.step(0), NONE);
        }
        due("start", x.start(0, 1000000), true);
        x.step(8);
        int[] before = seen(x);
        for (int[] r : refused) {
            due("start " + r[0] + ", " + r[1], x.start(r[0], r[1]), false);
            dueUnchanged("start", x, before);
        }
        due("the run is on still", x.step(1), ON);
        due("done", x.count(11), 9);
        int[][] taken = {{0, 0}, {0, 1000000}, {MAX, 0}, {MAX, 1000000}, {1, 999999}};
        for (int[] t : taken) {
            due("start " + t[0] + ", " + t[1], x.start(t[0], t[1]), true);
            due("place", x.count(10), t[0]);
            due("fuel", x.count(2), t[1]);
            due("on", x.step(0), ON);
        }
        where = "promise 6: the place may be beyond the code";
        CellEngine y = with(INT, 1, STOP);
        int[] beyond = {3, 4, 262144, MAX};
        for (int place : beyond) {
            due("start", y.start(place, 0), true);
            dueNothing("at " + place, y, FAULT);
            due("place", y.count(10), place);
        }
        due("the last one", y.start(2, 0), true);
        due("is an instruction, with nothing to take", y.step(1), FAULT);
    }

    private static void startForgets() {
        where = "promise 6: so much fuel, no ticks, nothing made, depth 0 and no output (one that is on is gone)";
        CellEngine x = new CellEngine();
        text(x, "out");
        add(x, TICK, MAKE, 2, DEPTH, 1, HANDLE, 0, TEXT, 0, PRIM, 37, CLOSURE, 16, 0, DUP, CALL, JUMP, 16);
        for (int turn = 0; turn < 2; turn++) {
            due("start", x.start(0, 9), true);
            int[] want = {9, 0, 0, 0, 1, 0, 0, 0, 0, 0};
            for (int k = 0; k < want.length; k++) {
                due("count " + (k + 2), x.count(k + 2), want[k]);
            }
            due("out", x.out(0), NONE);
            due("step", x.step(100), ON);
            int[] then = {8, 1, 2, 1, 2, 2, 1, 3, 16, 100};
            for (int k = 0; k < then.length; k++) {
                due("then count " + (k + 2), x.count(k + 2), then[k]);
            }
            due("out", x.out(2), 't');
        }
        CellEngine y = with(INT, 5, REF, DUP, SETGLOBAL, 1, STOP);
        run(y, 0, 0);
        due("result", y.look(NONE, 0, 0), 5);
        y.start(0, 0);
        dueLook(y, NONE, 0, 0, 0, 0);
        due("globals stay", y.look(1, 1, 1), 5);
    }

    private static void stepArguments() {
        where = "promise 7: up to n instructions are done; NONE, refused, when n is not 0 .. 100,000";
        CellEngine x = with(TICK, JUMP, 0);
        x.start(0, 1000000);
        int[] refused = {-1, -2, MIN, 100001, MAX};
        int[] before = seen(x);
        for (int n : refused) {
            due("step " + n, x.step(n), NONE);
            dueUnchanged("step " + n, x, before);
        }
        due("step 0", x.step(0), ON);
        dueUnchanged("step 0", x, before);
        due("step 1", x.step(1), ON);
        due("done", x.count(11), 1);
        due("step 99,999", x.step(99999), ON);
        due("done", x.count(11), 100000);
        due("step 100,000", x.step(100000), ON);
        due("done", x.count(11), 200000);
        due("ticks", x.count(3), 100000);
        where = "promise 7: NONE, refused, when no run was begun";
        CellEngine y = with(INT, 1, STOP);
        for (int n : new int[] {0, 1, 100000}) {
            due("before", y.step(n), NONE);
        }
        due("done", y.count(11), 0);
        y.start(0, 0);
        due("begun", y.step(0), ON);
        y.save();
        due("behind save", y.step(0), NONE);
        y.start(0, 0);
        due("begun", y.step(9), STOPPED);
        due("refused behind the end", y.step(-1), NONE);
        due("refused behind the end", y.step(100001), NONE);
        y.restore();
        due("behind restore", y.step(1), NONE);
    }

    private static void stepEnds() {
        where = "promise 7: 0 .. 4 as the run has ended, 5 it is on still";
        int[][] ends = {{STOPPED, INT, 1, STOP}, {RAISED, NAME, 1, RAISE}, {NO_FUEL, INT, 1, TICK}, {NO_ROOM, INT, 1, MAKE, 1000001},
            {FAULT, INT, 1, 40}};
        for (int[] end : ends) {
            CellEngine x = with(java.util.Arrays.copyOfRange(end, 1, end.length));
            x.start(0, 0);
            due("not yet", x.step(1), ON);
            due("none more", x.step(0), ON);
            due("now", x.step(1), end[0]);
            x.start(0, 0);
            due("both at once", x.step(2), end[0]);
            x.start(0, 0);
            due("with steps left", x.step(100000), end[0]);
            due("done", x.count(11), end[0] <= RAISED ? 2 : 1);
        }
    }

    private static void stepBehindTheEnd() {
        where = "promise 7: behind its end the same is told again";
        int[][] ends = {{STOPPED, INT, 1, STOP}, {RAISED, NAME, 1, RAISE}, {NO_FUEL, TICK}, {NO_ROOM, MAKE, 1000001}, {FAULT, 40}};
        for (int[] end : ends) {
            CellEngine x = with(java.util.Arrays.copyOfRange(end, 1, end.length));
            run(x, 0, 0);
            int[] before = seen(x);
            for (int n : new int[] {0, 1, 100000}) {
                due("again", x.step(n), end[0]);
            }
            dueUnchanged("a step behind the end", x, before);
            x.limits(131072, MAX, MAX);
            add(x, INT, 1, STOP);
            due("more room and code come too late", x.step(9), end[0]);
        }
    }

    private static void lookGlobals() {
        where = "promise 8: what global i is (i from 0)";
        CellEngine x = with(INT, MIN, SETGLOBAL, 0, INT, MAX, SETGLOBAL, 2047, INT, 3, STOP);
        due("run", run(x, 0, 0), STOPPED);
        dueLook(x, 0, 0, 0, MIN, 0);
        dueLook(x, 2047, 0, 0, MAX, 0);
        dueLook(x, 1, 0, 0, 0, 0);
        dueLook(x, 2046, 0, 0, 0, 0);
        dueLook(x, NONE, 0, 0, 3, 0);
        int[] none = {-2, 2048, 2049, MIN, MAX};
        for (int i : none) {
            dueLook(x, i, 0, NONE, NONE, NONE);
        }
    }

    private static void lookResult() {
        where = "promise 8: the result of the last run (NONE; a scalar 0 as long as it is on)";
        CellEngine x = with(INT, 5, REF, DUP, STOP);
        dueLook(x, NONE, 0, 0, 0, 0);
        x.start(0, 0);
        dueLook(x, NONE, 0, 0, 0, 0);
        x.step(3);
        dueLook(x, NONE, 0, 0, 0, 0);
        dueLook(x, NONE, 1, NONE, NONE, NONE);
        x.step(1);
        dueLook(x, NONE, 0, 5, 0, 1);
        dueLook(x, NONE, 1, 0, 5, 0);
        x.start(0, 0);
        dueLook(x, NONE, 0, 0, 0, 0);
        dueLook(x, NONE, 1, NONE, NONE, NONE);
        CellEngine y = with(NAME, 7, DUP, SETGLOBAL, 1, INT, 5, PACKET, RAISE);
        run(y, 0, 0);
        dueLook(y, NONE, 0, 7, 7, 1);
        dueLook(y, NONE, 1, 0, 5, 0);
        y.cut(0);
        add(y, GLOBAL, 1, TICK);
        due("fuel", run(y, 0, 0), NO_FUEL);
        dueLook(y, NONE, 0, 0, 0, 0);
    }

    private static void lookPaths() {
        where = "promise 8: a path's bytes, the lowest first, up to the first that is 0, tell parts from 1 on";
        CellEngine x = with(INT, 8, SETGLOBAL, 1, TICK, GLOBAL, 1, REF, SETGLOBAL, 1, JUMP, 4);
        run(x, 0, 9);
        long path = 0;
        for (int k = 0; k < 8; k++) {
            dueLook(x, 1, path, 5, 0, 1);
            // A part that is not there, and bytes behind the first 0, which do not count.
            dueLook(x, 1, path | 2L << 8 * k, NONE, NONE, NONE);
            dueLook(x, 1, path | 255L << 8 * k, NONE, NONE, NONE);
            if (k < 7) {
                dueLook(x, 1, path | 0x80L << 8 * (k + 1), 5, 0, 1);
                due("as without them", x.same(1, path, 1, path | 1L << 8 * (k + 1)), true);
            }
            path |= 1L << 8 * k;
        }
        dueLook(x, 1, path, 5, 0, 1);
        run(x, 0, 8);
        dueLook(x, 1, path, 0, 8, 0);
        run(x, 0, 7);
        dueLook(x, 1, path, NONE, NONE, NONE);
        dueLook(x, 1, path >>> 8, 0, 8, 0);
        dueLook(x, 1, Long.MIN_VALUE, 5, 0, 1);
        dueLook(x, 1, Long.MAX_VALUE, NONE, NONE, NONE);
        dueLook(x, 1, -1L, NONE, NONE, NONE);
        dueLook(x, 0, 1, NONE, NONE, NONE);
    }

    private static void lookWideParts() {
        where = "promise 8: parts up to the 255th";
        CellEngine x = wide(255, RECORD, 255);
        dueLook(x, NONE, 0, 2, 0, 255);
        dueLook(x, NONE, 1, 0, 0, 0);
        dueLook(x, NONE, 127, 0, 126, 0);
        dueLook(x, NONE, 128, 0, 127, 0);
        dueLook(x, NONE, 254, 0, 253, 0);
        dueLook(x, NONE, 255, 0, 254, 0);
        CellEngine y = wide(254, RECORD, 254);
        dueLook(y, NONE, 254, 0, 253, 0);
        dueLook(y, NONE, 255, NONE, NONE, NONE);
        CellEngine z = wide(4095, CLOSURE, 7, 4095);
        dueLook(z, NONE, 0, 4, 7, 4095);
        dueLook(z, NONE, 255, 0, 254, 0);
        dueLook(z, NONE, 256, 4, 7, 4095);
        CellEngine w = wide(255, CLOSURE, MIN, 255, RECORD, 1);
        dueLook(w, NONE, 0xFF01, 0, 254, 0);
        CellEngine v = with(CLOSURE, MAX, 0, STOP);
        run(v, 0, 0);
        dueLook(v, NONE, 0, 4, MAX, 0);
        dueLook(v, NONE, 1, NONE, NONE, NONE);
    }

    private static void lookWhat() {
        where = "promise 8: what = 0, 1, 2; NONE for another what";
        CellEngine x = new CellEngine();
        text(x, "");
        text(x, "abc");
        add(x, NAME, 0, SETGLOBAL, 1, INT, 9, RECORD, 1, SETGLOBAL, 2, INT, 9, BUILD, MAX, SETGLOBAL, 3);
        add(x, CLOSURE, -1, 0, SETGLOBAL, 4, INT, 9, REF, SETGLOBAL, 5, TEXT, 1, SETGLOBAL, 6, TEXT, 0, SETGLOBAL, 8);
        add(x, NAME, 65535, INT, 9, PACKET, SETGLOBAL, 7, INT, 9, BUILD, MIN, STOP);
        due("run", run(x, 0, 0), STOPPED);
        int[][] want = {{0, 0, 0}, {1, 0, 0}, {2, 0, 1}, {3, MAX, 1}, {4, -1, 0}, {5, 0, 1}, {6, 3, 0}, {7, 65535, 1}, {6, 0, 0}};
        for (int i = 0; i < want.length; i++) {
            dueLook(x, i, 0, want[i][0], want[i][1], want[i][2]);
            boolean hasPart = want[i][2] == 1;
            dueLook(x, i, 1, hasPart ? 0 : NONE, hasPart ? 9 : NONE, hasPart ? 0 : NONE);
            dueLook(x, i, 2, NONE, NONE, NONE);
            for (int what : new int[] {-1, 3, 4, MIN, MAX}) {
                due("what " + what, x.look(i, 0, what), NONE);
            }
        }
        dueLook(x, NONE, 0, 3, MIN, 1);
    }

    private static void byteOfEnds() {
        where = "promise 9: byte k of a string that is found so; NONE when there is none";
        CellEngine x = new CellEngine();
        text(x, "");
        text(x, "\u0001");
        text(x, "abcd\u0080\u00ff");
        add(x, TEXT, 0, SETGLOBAL, 1, TEXT, 1, SETGLOBAL, 2, TEXT, 2, SETGLOBAL, 3, INT, 0, PRIM, 29, RECORD, 1, STOP);
        due("run", run(x, 0, 0), STOPPED);
        int[] length = {0, 0, 1, 6};
        for (int i = 0; i < 4; i++) {
            int[] none = {-1, MIN, length[i], length[i] + 1, length[i] + 4, MAX};
            for (int k : none) {
                due("byte " + k + " of " + i, x.byteOf(i, 0, k), NONE);
            }
        }
        due("the only one", x.byteOf(2, 0, 0), 1);
        due("first", x.byteOf(3, 0, 0), 'a');
        due("fourth", x.byteOf(3, 0, 3), 'd');
        due("128", x.byteOf(3, 0, 4), 128);
        due("last", x.byteOf(3, 0, 5), 255);
        due("a byte 0", x.byteOf(NONE, 1, 0), 0);
        due("behind it", x.byteOf(NONE, 1, 1), NONE);
        due("of the record", x.byteOf(NONE, 0, 0), NONE);
        due("of no part", x.byteOf(NONE, 2, 0), NONE);
        due("of a string's part", x.byteOf(3, 1, 0), NONE);
        due("bytes behind a path's first 0", x.byteOf(NONE, 0x0501, 0), NONE);
        due("bytes behind a path's first 0", x.byteOf(NONE, 0x050001, 0), 0);
        for (int i : new int[] {-2, 2048, MIN, MAX}) {
            due("of " + i, x.byteOf(i, 0, 0), NONE);
        }
        where = "promise 9: the longest string";
        CellEngine y = longest();
        due("byte 0", y.byteOf(NONE, 0, 0), '1');
        due("byte 65,534", y.byteOf(NONE, 0, 65534), '7');
        due("byte 65,535", y.byteOf(NONE, 0, 65535), NONE);
    }

    private static void sameEnds() {
        where = "promise 10: whether two things that are found so are the same scalar, exception name or object";
        CellEngine x = new CellEngine();
        text(x, "");
        add(x, INT, MIN, SETGLOBAL, 1, INT, MIN, SETGLOBAL, 2, INT, MAX, SETGLOBAL, 3);
        add(x, NAME, 0, SETGLOBAL, 4, GLOBAL, 4, SETGLOBAL, 5, NAME, 0, SETGLOBAL, 6);
        add(x, TEXT, 0, SETGLOBAL, 7, GLOBAL, 7, SETGLOBAL, 8, TEXT, 0, SETGLOBAL, 9);
        add(x, GLOBAL, 4, GLOBAL, 7, PACKET, SETGLOBAL, 10, GLOBAL, 10, STOP);
        due("run", run(x, 0, 0), STOPPED);
        int[][] classes = {{0, 2047}, {1, 2}, {3}, {4, 5}, {6}, {7, 8}, {9}, {10, NONE}};
        for (int[] first : classes) {
            for (int[] second : classes) {
                for (int i : first) {
                    for (int j : second) {
                        due(i + " and " + j, x.same(i, 0, j, 0), first == second);
                    }
                }
            }
        }
        due("a part", x.same(10, 1, 7, 0), true);
        due("a part", x.same(7, 0, NONE, 1), true);
        due("another one", x.same(10, 1, 9, 0), false);
        due("none and none", x.same(10, 2, 10, 2), false);
        due("none and none", x.same(-2, 0, -2, 0), false);
        due("none and none", x.same(2048, 0, 2048, 0), false);
        due("none and a scalar", x.same(2048, 0, 0, 0), false);
        due("a scalar and none", x.same(0, 0, 2048, 0), false);
        due("a scalar and none", x.same(0, 0, 0, 1), false);
        due("none and a scalar", x.same(MIN, 0, MAX, 0), false);
    }

    private static void outEnds() {
        where = "promise 11: byte k of the output since the last start(); NONE when there is none";
        CellEngine x = new CellEngine();
        text(x, "");
        text(x, "\u0001\u00ff");
        due("before a run", x.out(0), NONE);
        add(x, TEXT, 0, PRIM, 37, TEXT, 1, PRIM, 37, INT, 0, PRIM, 29, PRIM, 37, STOP);
        x.start(0, 0);
        x.step(2);
        due("a string without bytes", x.out(0), NONE);
        due("count", x.count(9), 0);
        x.step(2);
        int[] want = {1, 255};
        for (int k = -2; k < 5; k++) {
            due("byte " + k, x.out(k), k >= 0 && k < 2 ? want[k] : NONE);
        }
        due("stop", x.step(9), STOPPED);
        due("a byte 0", x.out(2), 0);
        due("behind it", x.out(3), NONE);
        due("the least int", x.out(MIN), NONE);
        due("the largest int", x.out(MAX), NONE);
        due("count", x.count(9), 3);
        due("save", x.save(), 0);
        due("the output stays", x.out(1), 255);
        due("restore", x.restore(), 0);
        due("the output stays", x.out(1), 255);
        due("refused", x.start(-1, 0), false);
        due("the output stays", x.out(1), 255);
        due("start", x.start(0, 0), true);
        due("gone", x.out(0), NONE);
        due("count", x.count(9), 0);
    }

    private static void outFull() {
        where = "promise 11: at most 65,536 of which are kept";
        CellEngine x = longest();
        x.cut(x.count(0) - 1);
        add(x, SETGLOBAL, 1, GLOBAL, 1, PRIM, 37, GLOBAL, 1, INT, 0, INT, 1, PRIM, 30, PRIM, 37);
        int place = x.count(0);
        add(x, GLOBAL, 1, PRIM, 37, STOP);
        due("run", run(x, 0, 0), STOPPED);
        due("byte 0", x.out(0), '1');
        due("byte 65,534", x.out(65534), '7');
        due("byte 65,535", x.out(65535), '1');
        due("byte 65,536", x.out(65536), NONE);
        due("byte 65,537", x.out(65537), NONE);
        due("done", x.count(10), place + 5);
        x.cut(place);
        add(x, STOP);
        due("run", run(x, 0, 0), STOPPED);
        due("65,536 bytes", x.count(9), 65536);
        due("byte 65,535", x.out(65535), '1');
        due("byte 65,536", x.out(65536), NONE);
        int again = x.count(0);
        add(x, GLOBAL, 1, PRIM, 37, STOP);
        due("run", run(x, again, 0), STOPPED);
        due("65,535 bytes", x.count(9), 65535);
        due("byte 65,534", x.out(65534), '7');
        due("byte 65,535", x.out(65535), NONE);
    }

    private static void limitsArguments() {
        where = "promise 12: reached 0 .. 131,072, the others not below 0";
        int[][] taken = {{0, 0, 0}, {131072, MAX, MAX}, {131072, 0, 0}, {0, MAX, 0}, {0, 0, MAX}, {1, 1, 1}};
        int[][] refused = {{-1, 0, 0}, {MIN, 0, 0}, {131073, 0, 0}, {MAX, 0, 0}, {0, -1, 0}, {0, MIN, 0}, {0, 0, -1}, {0, 0, MIN}};
        CellEngine x = new CellEngine();
        for (int[] t : taken) {
            due("limits " + java.util.Arrays.toString(t), x.limits(t[0], t[1], t[2]), true);
        }
        for (int[] r : refused) {
            due("limits " + java.util.Arrays.toString(r), x.limits(r[0], r[1], r[2]), false);
        }
        where = "promise 12: are these from now on (of a run that is on, too)";
        for (int limit = 0; limit < 3; limit++) {
            CellEngine y = with(CLOSURE, 0, 0, CLOSURE, 0, 0, CLOSURE, 0, 0);
            y.start(0, 0);
            y.limits(limit, 0, 0);
            due("cells", y.step(limit), ON);
            dueNothing("a cell above " + limit, y, NO_ROOM);
            CellEngine z = with(MAKE, 1, MAKE, 1, MAKE, 1);
            z.start(0, 0);
            z.limits(0, limit, 0);
            due("made", z.step(limit), ON);
            dueNothing("made above " + limit, z, NO_ROOM);
            CellEngine w = with(DEPTH, 1, DEPTH, 1, DEPTH, 1);
            w.start(0, 0);
            w.limits(0, 0, limit);
            due("depth", w.step(limit), ON);
            dueNothing("depth above " + limit, w, NO_ROOM);
        }
    }

    private static void limitsRefused() {
        where = "promise 12: refused limits stay as they were";
        int[][] refused = {{-1, 9, 9}, {131073, 9, 9}, {9, -1, 9}, {9, 9, -1}};
        int[][] code = {{CLOSURE, 0, 0}, {MAKE, 1}, {DEPTH, 1}};
        for (int[] r : refused) {
            for (int[] op : code) {
                CellEngine x = with(join(op, op));
                x.limits(1, 1, 1);
                x.start(0, 0);
                due("refused", x.limits(r[0], r[1], r[2]), false);
                dueDone("as before", x);
                dueNothing("as before", x, NO_ROOM);
            }
        }
        where = "promise 12: limits below what is there already";
        CellEngine y = with(MAKE, 5, DEPTH, 5, INT, 0, REF, TICK, POP, DEPTH, -5, DEPTH, 0, MAKE, 0, CLOSURE, 0, 0);
        y.start(0, 9);
        y.step(4);
        y.limits(0, 0, 0);
        due("nothing is looked at by itself", y.step(2), ON);
        due("no depth is above 0 behind this", y.step(2), ON);
        dueNothing("five made are above 0", y, NO_ROOM);
        CellEngine z = with(DEPTH, 5, DEPTH, -1);
        for (int limit = 3; limit <= 4; limit++) {
            z.limits(0, 0, 9);
            upTo(2, 0, z);
            z.limits(0, 0, limit);
            due("depth 4 and limit " + limit, z.step(1), limit == 4 ? ON : NO_ROOM);
        }
        CellEngine w = with(MAKE, 5, MAKE, 0);
        for (int limit = 4; limit <= 5; limit++) {
            w.limits(0, 9, 0);
            upTo(2, 0, w);
            w.limits(0, limit, 0);
            due("made 5 and limit " + limit, w.step(1), limit == 5 ? ON : NO_ROOM);
        }
        // Five are made, which is above 4; only what makes more of them minds.
        CellEngine u = with(MAKE, 5, INT, 1, REF, RECORD, 1, BUILD, 1, CLOSURE, 0, 1, NAME, 1, SWAP, PACKET, PRIM, 38);
        u.limits(100, 9, 0);
        upTo(2, 0, u);
        u.limits(100, 4, 0);
        due("other objects count as none", u.step(8), ON);
        due("made", u.count(4), 5);
        CellEngine t = with(MAKE, 5, INT, 1, PRIM, 38);
        t.limits(100, 9, 0);
        upTo(4, 0, t);
        t.limits(100, 4, 0);
        dueNothing("a string of digits does", t, NO_ROOM);
        CellEngine v = with(INT, 0, REF, POP, CLOSURE, 0, 0, CLOSURE, 0, 0);
        upTo(4, 0, v);
        v.limits(1, 0, 0);
        dueDone("cells that nothing leads to do not count", v);
        dueNothing("the others do", v, NO_ROOM);
    }

    private static void collectArguments() {
        where = "promise 13: 1 .. 1,000,000; false, refused, otherwise";
        CellEngine x = new CellEngine();
        for (int every : new int[] {1, 2, 999999, 1000000}) {
            due("collect " + every, x.collect(every), true);
        }
        for (int every : new int[] {0, -1, MIN, 1000001, MAX}) {
            due("collect " + every, x.collect(every), false);
        }
        where = "promise 13: nothing tells it";
        int[] wanted = {};
        for (int every : new int[] {0, 1, 2, 3, 5, 8, 1000000, 1000001}) {
            CellEngine y = with(INT, 0, REF, SETGLOBAL, 1, TICK, GLOBAL, 1, GLOBAL, 1, GET, INT, 7, RECORD, 2, PUT);
            add(y, GLOBAL, 1, REF, REF, SETGLOBAL, 2, NAME, 5, GLOBAL, 2, PACKET, SETGLOBAL, 3, JUMP, 5);
            y.collect(every);
            y.limits(2 + 3 * 20 + 6 + 6, 0, 0);
            due("run", run(y, 0, 20), NO_FUEL);
            int[] got = join(seen(y), y.reached(), y.look(1, 0x0101010101010101L, 0), y.look(3, 0x01010101L, 2), y.save());
            wanted = wanted.length == 0 ? got : wanted;
            for (int k = 0; k < got.length; k++) {
                due("every " + every + ", number " + k, got[k], wanted[k]);
            }
        }
        due("reached", wanted[wanted.length - 1], 2 + 3 * 20 + 6);
    }

    private static void reachedEnds() {
        where = "promise 14: how many cells are reached from globals and the last result";
        CellEngine x = new CellEngine();
        due("none", x.reached(), 0);
        text(x, "");
        text(x, "1234");
        text(x, "12345");
        int[][] pieces = {{0, INT, 1}, {0, NAME, 1}, {2, INT, 1, RECORD, 1}, {2, INT, 1, BUILD, 1}, {1, CLOSURE, 0, 0},
            {2, INT, 1, CLOSURE, 0, 1}, {2, INT, 1, REF}, {2, NAME, 1, INT, 1, PACKET}, {1, TEXT, 0}, {2, TEXT, 1}, {3, TEXT, 2},
            {3, INT, 1, DUP, RECORD, 2}, {5, INT, 1, REF, DUP, RECORD, 2}};
        for (int[] piece : pieces) {
            int[] code = java.util.Arrays.copyOfRange(piece, 1, piece.length);
            x.cut(0);
            add(x, code);
            x.code(STOP);
            due("run", run(x, 0, 0), STOPPED);
            due("result", x.reached(), piece[0]);
            x.start(0, 0);
            due("no result while on", x.reached(), 0);
            x.step(9);
            x.cut(code.length);
            add(x, SETGLOBAL, 2047, GLOBAL, 2047, STOP);
            due("run", run(x, 0, 0), STOPPED);
            due("global and result are one", x.reached(), piece[0]);
            due("save", x.save(), piece[0]);
            x.cut(0);
            add(x, INT, 0, SETGLOBAL, 2047, INT, 0, STOP);
            due("run", run(x, 0, 0), STOPPED);
            due("nothing is reached", x.reached(), 0);
        }
        reachedWhileOn();
        due("wide record", wide(255, RECORD, 255).reached(), 256);
        due("wide closure", wide(4095, CLOSURE, 0, 4095).reached(), 4096);
        due("longest string", longest().reached(), 1 + 16384);
    }

    /** What only the run leads to does not count, but it is there still when new objects are made. */
    private static void reachedWhileOn() {
        CellEngine x = with(LOCALS, 1, INT, 7, REF, STORE, 0, INT, 1, INT, 8, RECORD, 2, INT, 9, CLOSURE, 26, 1, INT, 5, CALL);
        add(x, LOCAL, 0, RECORD, 3, STOP, INT, 6, REF, INT, 6, REF, POP, FREE, 0, RECORD, 2, RETURN);
        x.start(0, 0);
        for (int turn = 0; turn < 40 && x.step(0) == ON; turn++) {
            due("nothing from globals", x.reached(), 0);
            x.step(1);
        }
        due("stop", x.step(0), STOPPED);
        due("a record of three, with 3, 3, 2 and 2", x.reached(), 4 + 3 + 3 + 2 + 2);
        int[] want = {1, 8, 6, 9, 7};
        long[] paths = {0x0101, 0x0201, 0x010102, 0x0202, 0x0103};
        for (int k = 0; k < want.length; k++) {
            dueLook(x, NONE, paths[k], 0, want[k], 0);
        }
    }

    private static void saveEnds() {
        where = "promise 15: globals, and all that is reached from them, are kept as they are now: how many cells";
        CellEngine x = new CellEngine();
        due("nothing", x.save(), 0);
        add(x, INT, 1, REF, DUP, SETGLOBAL, 0, REF, SETGLOBAL, 2047, INT, 5, REF, STOP);
        due("run", run(x, 0, 0), STOPPED);
        due("the result is not kept", x.save(), 4);
        dueLook(x, NONE, 1, 0, 5, 0);
        due("the result stays", x.reached(), 6);
        due("again", x.save(), 4);
        where = "promise 15: kept as they are, whatever comes later";
        x.cut(0);
        add(x, GLOBAL, 0, INT, 9, PUT, INT, 4, SETGLOBAL, 2047, INT, 6, SETGLOBAL, 1, INT, 0, STOP);
        due("run", run(x, 0, 0), STOPPED);
        due("now", x.look(0, 1, 1), 9);
        due("restore", x.restore(), 4);
        due("then", x.look(0, 1, 1), 1);
        due("shared", x.same(0, 0, 2047, 1), true);
        dueLook(x, 1, 0, 0, 0, 0);
    }

    private static void saveWithoutARun() {
        where = "promise 15: no run was begun then (frames, handlers, values on stacks 0; the others stay)";
        CellEngine x = new CellEngine();
        text(x, "io");
        add(x, TICK, MAKE, 3, DEPTH, 4, HANDLE, 0, TEXT, 0, PRIM, 37, CLOSURE, 16, 0, DUP, CALL, JUMP, 16);
        int[] on = {8, 1, 3, 4, 2, 2, 1, 2, 16, 50};
        for (int turn = 0; turn < 2; turn++) {
            x.start(0, 9);
            due("on", x.step(50), ON);
            for (int k = 0; k < on.length; k++) {
                due("count " + (k + 2), x.count(k + 2), on[k]);
            }
            due("cells", turn == 0 ? x.save() : x.restore(), 0);
            for (int k = 0; k < on.length; k++) {
                boolean gone = k + 2 >= 6 && k + 2 <= 8;
                due("then count " + (k + 2), x.count(k + 2), gone ? 0 : on[k]);
            }
            due("output", x.out(1), 'o');
            due("step", x.step(0), NONE);
            due("step", x.step(1), NONE);
            dueLook(x, NONE, 0, 0, 0, 0);
        }
    }

    private static void restoreEnds() {
        where = "promise 16: again as they were at the last save(), which stays; the result is the scalar 0";
        CellEngine x = with(INT, 1, REF, SETGLOBAL, 1, INT, 7, REF, STOP);
        run(x, 0, 0);
        due("save", x.save(), 2);
        due("the result stays", x.look(NONE, 1, 1), 7);
        for (int turn = 0; turn < 3; turn++) {
            due("restore", x.restore(), 2);
            dueLook(x, NONE, 0, 0, 0, 0);
            due("reached", x.reached(), 2);
            due("as it was", x.look(1, 1, 1), 1);
            x.cut(0);
            add(x, GLOBAL, 1, INT, 50 + turn, PUT, GLOBAL, 1, REF, REF, SETGLOBAL, 2, INT, 3, REF, STOP);
            due("run", run(x, 0, 0), STOPPED);
            due("changed", x.look(2, 0x010101, 1), 50 + turn);
        }
        due("the last save", x.save(), 6);
        due("restore", x.restore(), 6);
        due("the last one", x.look(1, 1, 1), 52);
    }

    private static void restoreWithoutASave() {
        where = "promise 16: at first all 0";
        CellEngine x = with(INT, 1, SETGLOBAL, 0, INT, 1, REF, SETGLOBAL, 1, NAME, 1, SETGLOBAL, 2047, INT, 1, REF, STOP);
        due("before a run", x.restore(), 0);
        run(x, 0, 0);
        due("restore", x.restore(), 0);
        for (int i : new int[] {NONE, 0, 1, 2047}) {
            dueLook(x, i, 0, 0, 0, 0);
        }
        due("reached", x.reached(), 0);
        due("no run", x.step(1), NONE);
    }

    private static void countArguments() {
        where = "promise 17: NONE for another what";
        CellEngine x = with(INT, 1, STOP);
        run(x, 0, 0);
        for (int what : new int[] {-1, -2, 12, 13, MIN, MAX}) {
            due("count " + what, x.count(what), NONE);
        }
        due("0", x.count(0), 3);
        due("11", x.count(11), 2);
    }

    private static void countBeforeARun() {
        where = "promise 17: frames 0 before a run";
        CellEngine x = with(INT, 1, STOP);
        text(x, "a");
        int[] want = {3, 1, 0, 0, 0, 0, 0, 0, 0, 0, 0, 0};
        for (int what = 0; what < want.length; what++) {
            due("count " + what, x.count(what), want[what]);
        }
        x.start(2, 5);
        due("one frame", x.count(6), 1);
        due("no values", x.count(7), 0);
        due("place", x.count(10), 2);
    }

    private static void countBehindTheEnd() {
        where = "promise 17: the place behind STOP or a raise, that one itself when it did nothing; instructions done";
        dueEnd("STOP", STOPPED, 3, 2, INT, 1, STOP, INT, 1);
        dueEnd("RAISE", RAISED, 3, 2, NAME, 1, RAISE, INT, 1);
        dueEnd("a primitive raises", RAISED, 10, 5, NAME, 1, SETGLOBAL, 3, INT, 1, INT, 0, PRIM, 5, INT, 1);
        dueEnd("MAKE", NO_ROOM, 2, 1, INT, 1, MAKE, MAX);
        dueEnd("fault", FAULT, 2, 1, INT, 1, GET);
        CellEngine x = with(INT, 1, TICK);
        run(x, 0, 0);
        due("TICK", x.count(10), 2);
        due("done", x.count(11), 1);
        where = "promise 17: behind its end all are as the run left them";
        // STOP in the second frame of a run that has a handler: what it takes is gone, the rest is there.
        CellEngine y = with(HANDLE, 0, INT, 1, CLOSURE, 10, 0, INT, 2, CALL, INT, 3, INT, 4, STOP);
        due("run", run(y, 0, 0), STOPPED);
        due("frames", y.count(6), 2);
        due("values", y.count(7), 3);
        due("handlers", y.count(8), 1);
        due("result", y.look(NONE, 0, 1), 4);
        // A raise without a handler leaves frames and depth, and takes what it takes.
        CellEngine z = with(DEPTH, 2, INT, 1, CLOSURE, 10, 0, INT, 2, CALL, DEPTH, 1, INT, 3, NAME, 4, RAISE);
        due("run", run(z, 0, 0), RAISED);
        due("frames", z.count(6), 2);
        due("values", z.count(7), 3);
        due("depth", z.count(5), 3);
    }
}
