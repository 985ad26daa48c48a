/** What the document promises, promise by promise, with the answers worked out by hand from its words. */
public final class CellEngineTest extends Checks {
    public static void main(String[] args) {
        newObject();
        code();
        cut();
        putAndConstant();
        start();
        step();
        look();
        bytesAndSame();
        out();
        limits();
        collect();
        reached();
        saveAndRestore();
        count();
        plainInstructions();
        objectInstructions();
        frameInstructions();
        jumpInstructions();
        handlers();
        names();
        equality();
        numbers();
        naturals();
        strings();
        lists();
        faults();
        roomOfCells();
        roomOfStacks();
        end();
    }

    private static void newObject() {
        where = "promise 1";
        due("NONE", CellEngine.NONE, -1);
        due("FULL", CellEngine.FULL, -2);
        CellEngine x = new CellEngine();
        for (int what = 0; what <= 11; what++) {
            due("count " + what, x.count(what), 0);
        }
        for (int i = -1; i < 2048; i += i < 3 ? 1 : 409) {
            due("kind of " + i, x.look(i, 0, 0), 0);
            due("scalar of " + i, x.look(i, 0, 1), 0);
        }
        due("reached", x.reached(), 0);
        due("out", x.out(0), NONE);
        due("step", x.step(1), NONE);
        due("step 0", x.step(0), NONE);
        // The limits at first.
        dueEnd("made 1,000,000", FAULT, 2, 1, MAKE, 1000000);
        dueEnd("made 1,000,001", NO_ROOM, 0, 0, MAKE, 1000001);
        dueEnd("depth 2,000", FAULT, 2, 1, DEPTH, 2000);
        dueEnd("depth 2,001", NO_ROOM, 0, 0, DEPTH, 2001);
        CellEngine y = with(INT, 0, SETGLOBAL, 1, TICK, GLOBAL, 1, REF, SETGLOBAL, 1, JUMP, 4);
        due("65,536 cells", run(y, 0, 1000000), NO_ROOM);
        due("ticks", y.count(3), 32769);
        due("reached", y.reached(), 65536);
        y.cut(0);
        add(y, GLOBAL, 1, GET, SETGLOBAL, 1, CLOSURE, 0, 0, CLOSURE, 0, 0, CLOSURE, 0, 0);
        due("65,536 cells, one by one", run(y, 0, 0), NO_ROOM);
        due("at", y.count(10), 11);
    }

    private static void code() {
        where = "promise 2";
        CellEngine x = new CellEngine();
        due("first", x.code(5), 1);
        due("second", x.code(MIN), 2);
        due("cut", x.cut(0), 0);
        add(x, JUMP, 2);
        due("start", x.start(0, 0), true);
        due("step", x.step(1), ON);
        due("while on", x.code(INT), 3);
        due("while on", x.code(7), 4);
        due("while on", x.code(STOP), 5);
        due("goes on", x.step(5), STOPPED);
        due("result", x.look(NONE, 0, 1), 7);
        due("count", x.count(0), 5);
        CellEngine y = new CellEngine();
        for (int i = 1; i <= 500; i++) {
            due("word " + i, y.code(i), i);
        }
        // More calls than an object is promised for, but the limit is as it is.
        for (int i = 501; i <= 262144; i++) {
            y.code(i);
        }
        due("262,145", y.code(0), FULL);
        due("words", y.count(0), 262144);
    }

    private static void cut() {
        where = "promise 3";
        CellEngine x = with(INT, 1, INT, 2, STOP);
        due("too many", x.cut(6), NONE);
        due("below 0", x.cut(-1), NONE);
        due("all", x.cut(5), 5);
        x.start(0, 0);
        due("a run is on", x.cut(1), NONE);
        due("same size, a run is on", x.cut(5), NONE);
        due("words", x.count(0), 5);
        x.step(10);
        due("run over", x.cut(3), 3);
        due("words", x.count(0), 3);
        due("operand beyond", run(x, 0, 0), FAULT);
        due("at", x.count(10), 2);
        due("again", x.code(9), 4);
        x.start(0, 0);
        x.save();
        due("run forgotten by save", x.cut(2), 2);
        x.start(0, 0);
        x.restore();
        due("run forgotten by restore", x.cut(0), 0);
        due("words", x.count(0), 0);
    }

    private static void putAndConstant() {
        where = "promises 4 and 5";
        CellEngine x = new CellEngine();
        due("five", x.put(0x0000656463626100L >> 8), 5);
        due("up to the first 0", x.put(0x6600676665L), 8);
        due("none", x.put(0), 8);
        due("0 in front", x.put(0x4100), 8);
        due("eight", x.put(-1L), 16);
        due("constant", x.constant(), 0);
        due("without bytes", x.constant(), 1);
        due("count", x.count(1), 2);
        due("next", x.put(0x7fL), 1);
        add(x, TEXT, 0, SETGLOBAL, 20, TEXT, 1, SETGLOBAL, 21, TEXT, 2, STOP);
        due("not yet a constant", run(x, 0, 0), FAULT);
        due("at", x.count(10), 8);
        due("constant", x.constant(), 2);
        due("now it is", run(x, 0, 0), STOPPED);
        dueString("constant 0", x, 20, "abcdeefg\u00ff\u00ff\u00ff\u00ff\u00ff\u00ff\u00ff\u00ff");
        dueString("constant 1", x, 21, "");
        dueString("constant 2", x, NONE, "\u007f");
        CellEngine y = new CellEngine();
        for (int i = 1; i <= 512; i++) {
            due("put " + i, y.put(0x0102030405060708L), 8 * i);
        }
        // More calls than an object is promised for, but the limits are as they are.
        due("one more", y.put(1), FULL);
        due("none more", y.put(0), 4096);
        due("constant", y.constant(), 0);
        for (int k = 1; k < 16; k++) {
            for (int i = 1; i <= 512; i++) {
                y.put(-1L);
            }
            due("constant " + k, y.constant(), k);
        }
        due("65,536 bytes are there", y.put(65), 1);
        due("no more", y.constant(), FULL);
        due("what was put stays", y.put(66), 2);
        CellEngine z = new CellEngine();
        for (int k = 0; k < 1024; k++) {
            due("constant " + k, z.constant(), k);
        }
        due("1,025", z.constant(), FULL);
        due("count", z.count(1), 1024);
    }

    private static void start() {
        where = "promise 6";
        CellEngine x = with(INT, 7, TICK, MAKE, 3, DEPTH, 2, HANDLE, 0, JUMP, 2);
        text(x, "out");
        due("place below 0", x.start(-1, 0), false);
        due("fuel below 0", x.start(0, -1), false);
        due("fuel above", x.start(0, 1000001), false);
        due("no run was begun", x.step(1), NONE);
        due("fuel 1,000,000", x.start(0, 1000000), true);
        due("fuel", x.count(2), 1000000);
        due("steps", x.step(9), ON);
        due("made", x.count(4), 6);
        due("refused", x.start(0, 2000000), false);
        due("refused start changes nothing", x.count(11), 9);
        due("gone", x.start(2, 5), true);
        for (int what = 3; what <= 11; what++) {
            due("count " + what, x.count(what), what == 6 ? 1 : what == 10 ? 2 : 0);
        }
        due("fuel", x.count(2), 5);
        due("beyond the code", x.start(MAX, 0), true);
        due("step 0", x.step(0), ON);
        due("step 1", x.step(1), FAULT);
        due("place", x.count(10), MAX);
        due("done", x.count(11), 0);
        add(x, TEXT, 0, PRIM, 37, STOP);
        due("print", run(x, 11, 0), STOPPED);
        due("output", x.count(9), 3);
        due("refused", x.start(-5, 0), false);
        due("output stays", x.out(2), 't');
        x.start(0, 0);
        due("no output", x.out(0), NONE);
        CellEngine y = with(INT, 5, STOP);
        run(y, 0, 0);
        due("result", y.look(NONE, 0, 1), 5);
        y.start(0, 0);
        due("result of a run that is on", y.look(NONE, 0, 1), 0);
    }

    private static void step() {
        where = "promise 7";
        CellEngine x = with(INT, 1, INT, 2, INT, 3, STOP);
        x.start(0, 0);
        due("-1", x.step(-1), NONE);
        due("100,001", x.step(100001), NONE);
        due("none", x.step(0), ON);
        due("two", x.step(2), ON);
        due("done", x.count(11), 2);
        due("one", x.step(1), ON);
        due("stop", x.step(1), STOPPED);
        due("again", x.step(100000), STOPPED);
        due("again", x.step(0), STOPPED);
        due("done", x.count(11), 4);
        due("refused behind the end", x.step(-1), NONE);
        CellEngine y = with(TICK, JUMP, 0);
        y.start(0, 1000000);
        due("100,000", y.step(100000), ON);
        due("done", y.count(11), 100000);
        due("ticks", y.count(3), 50000);
        dueEnd("raised", RAISED, 3, 2, NAME, 4, RAISE);
        CellEngine z = with(TICK, TICK, TICK);
        z.start(0, 2);
        due("fuel", z.step(9), NO_FUEL);
        due("fuel again", z.step(9), NO_FUEL);
        due("done", z.count(11), 2);
        due("place", z.count(10), 2);
        CellEngine w = with(TICK, TICK);
        w.start(0, 2);
        due("code's end is not looked at before", w.step(2), ON);
        due("then it is", w.step(1), FAULT);
        due("more code does not help", w.code(STOP), 3);
        due("fault again", w.step(1), FAULT);
    }

    private static void look() {
        where = "promise 8";
        CellEngine x = new CellEngine();
        text(x, "four");
        add(x, INT, -9, SETGLOBAL, 0, NAME, 65535, SETGLOBAL, 2047);
        add(x, INT, 1, TEXT, 0, INT, 3, RECORD, 3, SETGLOBAL, 10);
        add(x, GLOBAL, 10, BUILD, -77, SETGLOBAL, 11);
        add(x, GLOBAL, 11, GLOBAL, 10, CLOSURE, -3, 2, SETGLOBAL, 12);
        add(x, GLOBAL, 12, REF, SETGLOBAL, 13, TEXT, 0, SETGLOBAL, 14);
        add(x, GLOBAL, 2047, GLOBAL, 13, PACKET, STOP);
        due("run", run(x, 0, 0), STOPPED);
        dueLook(x, 0, 0, 0, -9, 0);
        dueLook(x, 2047, 0, 1, 65535, 0);
        dueLook(x, 10, 0, 2, 0, 3);
        dueLook(x, 10, 1, 0, 1, 0);
        dueLook(x, 10, 2, 6, 4, 0);
        dueLook(x, 10, 3, 0, 3, 0);
        dueLook(x, 10, 4, NONE, NONE, NONE);
        dueLook(x, 10, 255, NONE, NONE, NONE);
        dueLook(x, 10, 0x0101, NONE, NONE, NONE);
        dueLook(x, 11, 0, 3, -77, 1);
        dueLook(x, 11, 1, 2, 0, 3);
        dueLook(x, 11, 2, NONE, NONE, NONE);
        dueLook(x, 11, 0x0301, 0, 3, 0);
        dueLook(x, 12, 0, 4, -3, 2);
        dueLook(x, 12, 1, 3, -77, 1);
        dueLook(x, 12, 2, 2, 0, 3);
        dueLook(x, 13, 0, 5, 0, 1);
        dueLook(x, 13, 1, 4, -3, 2);
        dueLook(x, 13, 0x02010101, 6, 4, 0);
        dueLook(x, 13, 0x01020101, NONE, NONE, NONE);
        dueLook(x, 14, 0, 6, 4, 0);
        dueLook(x, 14, 1, NONE, NONE, NONE);
        dueLook(x, NONE, 0, 7, 65535, 1);
        dueLook(x, NONE, 1, 5, 0, 1);
        dueLook(x, NONE, 0x0201010101L, 6, 4, 0);
        dueLook(x, NONE, 0x0100000001L, 5, 0, 1);
        dueLook(x, NONE, 0xff00L, 7, 65535, 1);
        dueLook(x, -2, 0, NONE, NONE, NONE);
        dueLook(x, 2048, 0, NONE, NONE, NONE);
        dueLook(x, MAX, 0, NONE, NONE, NONE);
        due("what -1", x.look(0, 0, -1), NONE);
        due("what 3", x.look(0, 0, 3), NONE);
        longPaths();
    }

    private static void longPaths() {
        CellEngine x = with(INT, 42, SETGLOBAL, 1, TICK, GLOBAL, 1, REF, SETGLOBAL, 1, JUMP, 4);
        run(x, 0, 8);
        dueLook(x, 1, 0x0101010101010101L, 0, 42, 0);
        dueLook(x, 1, 0x0001010101010101L, 5, 0, 1);
        dueLook(x, 1, 0x0201010101010101L, NONE, NONE, NONE);
        CellEngine y = new CellEngine();
        for (int i = 0; i < 100; i++) {
            add(y, INT, i);
        }
        add(y, CLOSURE, 5, 100, DUP, SETGLOBAL, 1, STOP);
        due("run", run(y, 0, 0), STOPPED);
        dueLook(y, 1, 100, 0, 99, 0);
        dueLook(y, 1, 101, NONE, NONE, NONE);
        dueLook(y, 1, 0, 4, 5, 100);
    }

    private static void bytesAndSame() {
        where = "promises 9 and 10";
        CellEngine x = new CellEngine();
        text(x, "a\u00ffbcd");
        add(x, TEXT, 0, DUP, RECORD, 2, SETGLOBAL, 10, TEXT, 0, SETGLOBAL, 11);
        add(x, NAME, 5, DUP, SETGLOBAL, 12, SETGLOBAL, 13, NAME, 5, SETGLOBAL, 14);
        add(x, INT, -4, SETGLOBAL, 15, INT, -4, SETGLOBAL, 16, GLOBAL, 10, STOP);
        due("run", run(x, 0, 0), STOPPED);
        due("first", x.byteOf(11, 0, 0), 'a');
        due("without sign", x.byteOf(11, 0, 1), 255);
        due("last", x.byteOf(11, 0, 4), 'd');
        due("behind it", x.byteOf(11, 0, 5), NONE);
        due("far behind it", x.byteOf(11, 0, MAX), NONE);
        due("before it", x.byteOf(11, 0, -1), NONE);
        due("by a path", x.byteOf(NONE, 2, 4), 'd');
        due("of a record", x.byteOf(10, 0, 0), NONE);
        due("of a scalar", x.byteOf(15, 0, 0), NONE);
        due("of a name", x.byteOf(12, 0, 0), NONE);
        due("of nothing", x.byteOf(10, 3, 0), NONE);
        due("of no global", x.byteOf(2048, 0, 0), NONE);
        due("parts", x.same(10, 1, 10, 2), true);
        due("result and global", x.same(NONE, 0, 10, 0), true);
        due("result's part and global's", x.same(NONE, 2, 10, 1), true);
        due("like strings", x.same(10, 1, 11, 0), false);
        due("a name", x.same(12, 0, 13, 0), true);
        due("names told alike", x.same(12, 0, 14, 0), false);
        due("scalars", x.same(15, 0, 16, 0), true);
        due("other scalars", x.same(15, 0, 0, 0), false);
        due("name and scalar", x.same(12, 0, 17, 0), false);
        due("nothing and nothing", x.same(2048, 0, 2048, 0), false);
        due("nothing by a path", x.same(15, 1, 15, 1), false);
        due("a global and nothing", x.same(1, 0, -2, 0), false);
    }

    private static void out() {
        where = "promise 11";
        CellEngine x = new CellEngine();
        text(x, "hi\u0080");
        text(x, "12345678");
        add(x, TEXT, 0, PRIM, 37, TEXT, 0, PRIM, 37, RECORD, 2, STOP);
        due("run", run(x, 0, 0), STOPPED);
        due("puts 0", x.look(NONE, 1, 1), 0);
        due("puts 0", x.look(NONE, 2, 1), 0);
        due("bytes", x.count(9), 6);
        due("first", x.out(0), 'h');
        due("without sign", x.out(2), 128);
        due("second string", x.out(3), 'h');
        due("last", x.out(5), 128);
        due("behind", x.out(6), NONE);
        due("before", x.out(-1), NONE);
        due("far", x.out(MIN), NONE);
        int place = x.count(0);
        add(x, TICK, TEXT, 1, PRIM, 37, POP, JUMP, place);
        due("run", run(x, place, 8191), NO_FUEL);
        due("65,528 bytes", x.count(9), 65528);
        due("last", x.out(65527), '8');
        due("none", x.out(65528), NONE);
        due("run", run(x, place, 8193), NO_FUEL);
        due("the first 65,536", x.out(65535), '8');
        due("no more", x.out(65536), NONE);
        CellEngine y = new CellEngine();
        text(y, "abc");
        add(y, TICK, TEXT, 0, PRIM, 37, POP, JUMP, 0);
        due("run", run(y, 0, 30000), NO_FUEL);
        due("part of a string is kept", y.out(65535), 'a');
        due("no more", y.out(65536), NONE);
    }

    private static void limits() {
        where = "promise 12";
        CellEngine x = with(TICK, JUMP, 0);
        due("reached below 0", x.limits(-1, 0, 0), false);
        due("reached above", x.limits(131073, 0, 0), false);
        due("made below 0", x.limits(0, -1, 0), false);
        due("depth below 0", x.limits(0, 0, -1), false);
        due("most", x.limits(131072, MAX, MAX), true);
        due("least", x.limits(0, 0, 0), true);
        CellEngine y = with(DEPTH, 5, MAKE, 7, INT, 0, REF, STOP);
        due("exactly", y.limits(2, 7, 5), true);
        due("run", run(y, 0, 0), STOPPED);
        due("refused", y.limits(0, 0, -1), false);
        due("refused changes nothing", run(y, 0, 0), STOPPED);
        y.limits(2, 7, 4);
        due("depth", run(y, 0, 0), NO_ROOM);
        due("at", y.count(10), 0);
        y.limits(2, 6, 5);
        due("made", run(y, 0, 0), NO_ROOM);
        due("at", y.count(10), 2);
        y.limits(1, 7, 5);
        due("reached", run(y, 0, 0), NO_ROOM);
        due("at", y.count(10), 6);
        y.limits(2, 7, 5);
        y.start(0, 0);
        y.step(2);
        y.limits(0, 7, 5);
        due("of a run that is on", y.step(9), NO_ROOM);
        due("at", y.count(10), 6);
        CellEngine z = with(DEPTH, 9, DEPTH, -1, DEPTH, 0, DEPTH, -8);
        z.start(0, 0);
        z.step(1);
        z.limits(0, 0, 7);
        due("8 is above 7", z.step(1), NO_ROOM);
        due("nothing done", z.count(5), 9);
        CellEngine w = with(MAKE, 5, MAKE, 0, STOP);
        w.start(0, 0);
        w.step(1);
        w.limits(0, 4, 0);
        due("5 made are more than 4", w.step(1), NO_ROOM);
        due("made", w.count(4), 5);
        CellEngine v = with(MAKE, MAX, MAKE, MAX);
        v.limits(0, MAX, MAX);
        due("ints do not go round", run(v, 0, 0), NO_ROOM);
        due("made", v.count(4), MAX);
        CellEngine u = with(DEPTH, MAX, DEPTH, MAX);
        u.limits(0, MAX, MAX);
        due("nor do depths", run(u, 0, 0), NO_ROOM);
        due("depth", u.count(5), MAX);
        CellEngine t = with(INT, 0, SETGLOBAL, 1, TICK, GLOBAL, 1, REF, SETGLOBAL, 1, JUMP, 4);
        t.limits(131072, 0, 0);
        due("131,072 cells", run(t, 0, 1000000), NO_ROOM);
        due("reached", t.reached(), 131072);
        t.limits(10, 0, 0);
        due("more than the limit are reached", run(t, 4, 10), NO_ROOM);
        due("still", t.reached(), 131072);
    }

    private static void collect() {
        where = "promise 13";
        CellEngine x = new CellEngine();
        due("0", x.collect(0), false);
        due("-1", x.collect(-1), false);
        due("1,000,001", x.collect(1000001), false);
        due("1", x.collect(1), true);
        due("1,000,000", x.collect(1000000), true);
        for (int every = 1; every < 100; every = every * 2 + 1) {
            CellEngine y = collector(every);
            due("run " + every, run(y, 0, 300), NO_FUEL);
            due("counter " + every, y.look(10, 1, 1), 300);
            due("list " + every, y.look(11, 0x0101, 1), 300);
            due("list " + every, y.look(11, 0x01010201, 1), 299);
            due("reached " + every, y.reached(), 2 + 5 * 300 + 2);
            dueString("newest " + every, y, 12, "300");
        }
    }

    /** Counts in a reference, keeps a list of all that was counted, and makes strings that go. */
    private static CellEngine collector(int every) {
        CellEngine y = with(INT, 0, REF, SETGLOBAL, 10, TICK);
        y.collect(every);
        add(y, GLOBAL, 10, GLOBAL, 10, GET, INT, 1, PRIM, 0, PUT);
        add(y, GLOBAL, 10, GET, GLOBAL, 11, RECORD, 2, BUILD, 1, SETGLOBAL, 11);
        add(y, GLOBAL, 10, GET, PRIM, 38, SETGLOBAL, 12, JUMP, 5);
        // The counter, the list, the last string and the one that is made.
        y.limits(2 + 5 * 300 + 2 + 2, MAX, 0);
        return y;
    }

    private static void reached() {
        where = "promise 14";
        CellEngine x = new CellEngine();
        text(x, "12345");
        add(x, TEXT, 0, SETGLOBAL, 10, GLOBAL, 10, GLOBAL, 10, INT, 1, RECORD, 3, DUP, SETGLOBAL, 11, STOP);
        due("run", run(x, 0, 0), STOPPED);
        due("shared cells count once", x.reached(), 3 + 4);
        x.start(0, 0);
        due("result gone", x.reached(), 7);
        CellEngine y = with(INT, 1, INT, 2, CLOSURE, 9, 2, REF, STOP);
        due("run", run(y, 0, 0), STOPPED);
        due("result alone", y.reached(), 2 + 3);
        y.start(0, 0);
        y.step(4);
        due("stacks do not count", y.reached(), 0);
        due("but are not lost", y.step(9), STOPPED);
        due("reached", y.reached(), 5);
        due("closure", y.look(NONE, 1, 1), 9);
        due("captured", y.look(NONE, 0x0201, 1), 2);
        // A closure that leads to itself.
        CellEngine z = with(INT, 0, CLOSURE, 3, 1, DUP, PATCH, 0, SETGLOBAL, 1, NAME, 3, GLOBAL, 1, PACKET, RAISE);
        due("run", run(z, 0, 0), RAISED);
        due("circle", z.look(1, 0x0101010101010101L, 0), 4);
        due("circle", z.same(1, 0, 1, 1), true);
        due("packet and closure", z.reached(), 2 + 2);
        CellEngine w = with(INT, 0, BUILD, 9, STOP);
        run(w, 0, 0);
        due("constructed", w.reached(), 2);
        CellEngine v = with(NAME, 0, STOP);
        run(v, 0, 0);
        due("a name has no cells", v.reached(), 0);
        for (int n = 0; n <= 9; n++) {
            CellEngine u = new CellEngine();
            text(u, "123456789".substring(0, n));
            add(u, TEXT, 0, STOP);
            run(u, 0, 0);
            due("string of " + n, u.reached(), 1 + (n + 3) / 4);
        }
    }

    private static void saveAndRestore() {
        where = "promises 15 and 16";
        CellEngine x = new CellEngine();
        text(x, "text");
        add(x, INT, 5, REF, DUP, DUP, RECORD, 2, SETGLOBAL, 10, SETGLOBAL, 11, NAME, 9, SETGLOBAL, 2047);
        add(x, TEXT, 0, PRIM, 37, MAKE, 4, TICK, DEPTH, 3, GLOBAL, 10, INT, 0, RECORD, 2, STOP);
        due("before any", x.restore(), 0);
        due("run", run(x, 0, 7), STOPPED);
        due("save", x.save(), 5);
        due("result stays", x.look(NONE, 1, 2), 2);
        due("result is shared", x.same(NONE, 0x0101, 11, 0), true);
        due("reached with it", x.reached(), 8);
        due("no run", x.step(1), NONE);
        dueCounts(x, 6, 1, 4, 3, 0, 0, 0, 4);
        due("output stays", x.out(3), 't');
        due("done", x.count(11), 18);
        int place = x.count(0);
        due("place", x.count(10), place);
        add(x, GLOBAL, 10, FIELD, 0, GLOBAL, 10, PUT, INT, 1, SETGLOBAL, 10, INT, 2, SETGLOBAL, 5);
        add(x, NAME, 9, SETGLOBAL, 3, GLOBAL, 2047, SETGLOBAL, 4, GLOBAL, 11, STOP);
        due("run", run(x, place, 0), STOPPED);
        due("global", x.look(10, 0, 0), 0);
        due("reference leads back", x.same(11, 0, 11, 0x0101), true);
        due("same name", x.same(4, 0, 2047, 0), true);
        due("a run is on", x.start(0, 0), true);
        x.step(2);
        due("restore", x.restore(), 5);
        due("no run", x.step(1), NONE);
        due("frames", x.count(6), 0);
        due("values", x.count(7), 0);
        due("done stays", x.count(11), 2);
        due("result", x.look(NONE, 0, 0), 0);
        due("global 10", x.look(10, 0, 0), 2);
        due("referred to", x.look(10, 0x0102, 1), 5);
        due("shared", x.same(10, 1, 10, 2), true);
        due("shared", x.same(10, 1, 11, 0), true);
        due("global 5", x.look(5, 0, 1), 0);
        due("global 2047", x.look(2047, 0, 1), 9);
        due("reached", x.reached(), 5);
        due("name made later is another one", x.same(3, 0, 2047, 0), false);
        due("save stays", x.restore(), 5);
        due("run", run(x, place, 0), STOPPED);
        due("new name is not the kept one", x.same(3, 0, 2047, 0), false);
        due("new save", x.save(), 5);
        due("the newest one counts", x.restore(), 5);
        due("global 10", x.look(10, 0, 0), 0);
        due("global 5", x.look(5, 0, 1), 2);
        saveOfARunThatIsOn();
        restoreOfNothing();
        restoreOfLess();
    }

    /** What was gone through before a restore() tells nothing of the objects that are made behind it. */
    private static void restoreOfLess() {
        CellEngine x = with(INT, 0, SETGLOBAL, 1, TICK, GLOBAL, 1, REF, SETGLOBAL, 1, JUMP, 4);
        due("much", run(x, 0, 50), NO_FUEL);
        due("reached", x.reached(), 100);
        due("restore", x.restore(), 0);
        x.cut(0);
        add(x, TICK, GLOBAL, 4, INT, 1, PRIM, 0, DUP, SETGLOBAL, 4, GLOBAL, 2, RECORD, 2, SETGLOBAL, 2, JUMP, 0);
        due("a chain across it", run(x, 0, 40), NO_FUEL);
        due("collect", x.collect(1), true);
        due("more of it", run(x, 0, 20), NO_FUEL);
        due("reached", x.reached(), 180);
        x.cut(0);
        add(x, TICK, GLOBAL, 5, GLOBAL, 2, FIELD, 0, PRIM, 0, SETGLOBAL, 5);
        add(x, GLOBAL, 2, FIELD, 1, SETGLOBAL, 2, JUMP, 0);
        due("the way back", run(x, 0, 60), NO_FUEL);
        due("sum", x.look(5, 0, 1), 60 * 61 / 2);
        due("end of the chain", x.look(2, 0, 0), 0);
        due("reached", x.reached(), 0);
    }

    private static void dueCounts(CellEngine x, int fuel, int ticks, int made, int depth, int frames, int values,
            int handlers, int bytes) {
        int[] want = {fuel, ticks, made, depth, frames, values, handlers, bytes};
        for (int k = 0; k < want.length; k++) {
            due("count " + (k + 2), x.count(k + 2), want[k]);
        }
    }

    private static void saveOfARunThatIsOn() {
        CellEngine x = with(HANDLE, 0, INT, 1, REF, DUP, SETGLOBAL, 1, CLOSURE, 20, 0, INT, 0, CALL);
        while (x.count(0) < 20) {
            x.code(STOP);
        }
        add(x, JUMP, 20);
        x.start(0, 3);
        due("on", x.step(100), ON);
        dueCounts(x, 3, 0, 0, 0, 2, 2, 1, 0);
        due("save", x.save(), 2);
        dueCounts(x, 3, 0, 0, 0, 0, 0, 0, 0);
        due("place", x.count(10), 20);
        due("done", x.count(11), 100);
        due("no run", x.step(0), NONE);
        due("result", x.look(NONE, 0, 0), 0);
        due("start", x.start(0, 0), true);
        due("on", x.step(3), ON);
    }

    private static void restoreOfNothing() {
        CellEngine x = with(INT, 1, REF, DUP, SETGLOBAL, 2047, STOP);
        run(x, 0, 0);
        due("at first all 0", x.restore(), 0);
        due("global", x.look(2047, 0, 0), 0);
        due("global", x.look(2047, 0, 1), 0);
        due("reached", x.reached(), 0);
        // What is kept may be more than a later limit.
        CellEngine y = with(INT, 0, SETGLOBAL, 1, TICK, GLOBAL, 1, REF, SETGLOBAL, 1, JUMP, 4);
        run(y, 0, 20000);
        due("save", y.save(), 40000);
        y.limits(100, 0, 0);
        due("nothing", run(y, 0, 20), NO_FUEL);
        due("reached", y.reached(), 40);
        due("restore", y.restore(), 40000);
        due("reached", y.reached(), 40000);
        due("no room", run(y, 4, 20), NO_ROOM);
    }

    private static void count() {
        where = "promise 17";
        CellEngine x = new CellEngine();
        text(x, "xy");
        add(x, HANDLE, 99, TICK, MAKE, 6, DEPTH, 2, INT, 1, CLOSURE, 20, 0, INT, 0, CALL, 0, 0, 0, 0, 0);
        add(x, LOCALS, 3, INT, 1, INT, 2, TEXT, 0, PRIM, 37, STOP);
        due("run", run(x, 0, 9), STOPPED);
        due("code", x.count(0), x.code(0) - 1);
        due("constants", x.count(1), 1);
        // The first frame has 1 on its stack, the second one 3 locals and 1, 2.
        dueCounts(x, 8, 1, 6, 2, 2, 6, 1, 2);
        due("place", x.count(10), 31);
        due("done", x.count(11), 14);
        due("-1", x.count(-1), NONE);
        due("12", x.count(12), NONE);
        due("behind the end", x.step(5), STOPPED);
        due("done", x.count(11), 14);
        CellEngine y = with(INT, 4, TICK);
        y.start(0, 0);
        due("fuel", y.step(9), NO_FUEL);
        dueCounts(y, 0, 0, 0, 0, 1, 1, 0, 0);
        due("the one that did nothing", y.count(10), 2);
        due("done", y.count(11), 1);
        CellEngine z = with(INT, 4, INT, 5, NAME, 1, RAISE, 0);
        due("raise", run(z, 0, 0), RAISED);
        due("behind it", z.count(10), 7);
        due("values", z.count(7), 2);
        due("done", z.count(11), 4);
        CellEngine w = with(NAME, 3, SETGLOBAL, 3, INT, 8, INT, 1, INT, 0, PRIM, 5, 0);
        due("raise by a primitive", run(w, 0, 0), RAISED);
        due("behind it", w.count(10), 12);
        due("what it takes is taken", w.count(7), 1);
        due("done", w.count(11), 6);
    }

    private static void plainInstructions() {
        where = "instructions 0 to 9, 35 to 39";
        dueScalar("INT", MIN, INT, MIN, STOP);
        dueScalar("POP", 1, INT, 1, INT, 2, POP, STOP);
        dueScalar("DUP", 6, INT, 3, DUP, PRIM, 0, STOP);
        dueScalar("SWAP", 1, INT, 2, INT, 1, SWAP, PRIM, 1, PRIM, 3, PRIM, 3, PRIM, 3, STOP);
        dueScalar("GLOBAL", 8, INT, 8, SETGLOBAL, 2047, GLOBAL, 2047, STOP);
        dueScalar("LOCAL", 4, LOCALS, 2, INT, 4, STORE, 1, LOCAL, 1, STOP);
        dueScalar("new locals", 0, INT, 7, INT, 7, LOCALS, 2, LOCAL, 1, STOP);
        dueScalar("old locals stay", 5, LOCALS, 1, INT, 5, STORE, 0, LOCALS, 3, LOCAL, 0, STOP);
        dueScalar("locals that went are new", 0,
            LOCALS, 2, INT, 5, STORE, 1, LOCALS, 1, LOCALS, 2, LOCAL, 1, STOP);
        CellEngine x = dueEnd("LOCALS empties", FAULT, 6, 3, INT, 1, INT, 2, LOCALS, 0, POP);
        due("values", x.count(7), 0);
        dueFault("STOP of nothing", 0, 0, STOP);
        dueFault("no local", 2, 1, INT, 1, STORE, 0);
        dueFault("no local", 0, 0, LOCAL, 0);
        dueFault("local -1", 2, 1, LOCALS, 3, LOCAL, -1);
        dueFault("local 3", 2, 1, LOCALS, 3, LOCAL, 3);
        dueFault("store -1", 4, 2, LOCALS, 3, INT, 1, STORE, -1);
        dueFault("store of nothing", 2, 1, LOCALS, 3, STORE, 1);
        dueFault("global -1", 0, 0, GLOBAL, -1);
        dueFault("global 2048", 0, 0, GLOBAL, 2048);
        dueFault("set global 2048", 2, 1, INT, 1, SETGLOBAL, 2048);
        dueFault("set global -1", 2, 1, INT, 1, SETGLOBAL, -1);
        dueFault("set global of nothing", 0, 0, SETGLOBAL, 1);
        dueFault("POP of nothing", 0, 0, POP);
        dueFault("DUP of nothing", 0, 0, DUP);
        dueFault("SWAP of one", 2, 1, INT, 1, SWAP);
        dueFault("TEXT without constants", 0, 0, TEXT, 0);
        dueFault("TEXT -1", 0, 0, TEXT, -1);
        dueFault("LOCALS -1", 0, 0, LOCALS, -1);
        dueFault("LOCALS 16384", 0, 0, LOCALS, 16384);
        dueScalar("LOCALS 16383", 0, LOCALS, 16383, LOCAL, 16382, STOP);
        dueFault("MAKE -1", 0, 0, MAKE, -1);
        CellEngine y = dueEnd("DEPTH below 0", FAULT, 6, 3, DEPTH, 3, DEPTH, -2, DEPTH, -1, DEPTH, -1);
        due("depth", y.count(5), 0);
        dueFault("DEPTH of the least int", 2, 1, DEPTH, 1, DEPTH, MIN);
        dueFault("FREE in the first frame", 0, 0, FREE, 0);
        // A string that TEXT puts is a new one.
        CellEngine z = new CellEngine();
        text(z, "a");
        add(z, TEXT, 0, TEXT, 0, SAME, STOP);
        due("run", run(z, 0, 0), STOPPED);
        due("new strings", z.look(NONE, 0, 1), 0);
        due("TEXT does not count as made", z.count(4), 0);
    }

    private static void objectInstructions() {
        where = "instructions 10 to 16, 23 to 25";
        dueScalar("FIELD 0", 7, INT, 7, INT, 8, RECORD, 2, FIELD, 0, STOP);
        dueScalar("FIELD 1", 8, INT, 7, INT, 8, RECORD, 2, FIELD, 1, STOP);
        dueFault("FIELD 2", 6, 3, INT, 7, INT, 8, RECORD, 2, FIELD, 2);
        dueFault("FIELD -1", 6, 3, INT, 7, INT, 8, RECORD, 2, FIELD, -1);
        dueFault("FIELD of constructed", 4, 2, INT, 7, BUILD, 2, FIELD, 0);
        dueFault("RECORD 0", 2, 1, INT, 7, RECORD, 0);
        dueFault("RECORD of too many", 2, 1, INT, 7, RECORD, 2);
        int[] many = {};
        for (int i = 0; i < 256; i++) {
            many = join(many, INT, i);
        }
        dueScalar("RECORD 255", 255, join(many, RECORD, 255, FIELD, 254, STOP));
        dueFault("RECORD 256", 512, 256, join(many, RECORD, 256));
        dueScalar("TAG", MIN, INT, 7, BUILD, MIN, TAG, STOP);
        dueScalar("TAG of a scalar", 7, INT, 7, TAG, STOP);
        dueFault("TAG of a record", 4, 2, INT, 7, RECORD, 1, TAG);
        dueFault("TAG of a name", 2, 1, NAME, 7, TAG);
        dueScalar("ARGUMENT", 7, INT, 7, BUILD, 4, ARGUMENT, STOP);
        dueScalar("ARGUMENT of a packet", 7, NAME, 1, INT, 7, PACKET, ARGUMENT, STOP);
        dueFault("ARGUMENT of a scalar", 2, 1, INT, 7, ARGUMENT);
        dueFault("ARGUMENT of a reference", 3, 2, INT, 7, REF, ARGUMENT);
        dueFault("BUILD of nothing", 0, 0, BUILD, 1);
        dueFault("CLOSURE -1", 0, 0, CLOSURE, 0, -1);
        dueFault("CLOSURE 4096", 0, 0, CLOSURE, 0, 4096);
        dueFault("CLOSURE of too many", 2, 1, INT, 1, CLOSURE, 0, 2);
        dueScalar("GET", 7, INT, 7, REF, GET, STOP);
        dueFault("GET of a record", 4, 2, INT, 7, RECORD, 1, GET);
        dueScalar("PUT", 9, INT, 7, REF, DUP, INT, 9, PUT, GET, STOP);
        dueFault("PUT to a scalar", 4, 2, INT, 7, INT, 9, PUT);
        dueFault("PUT of one", 3, 2, INT, 7, REF, PUT);
        CellEngine x = with(INT, 1, INT, 2, CLOSURE, 50, 2, INT, 9, PATCH, 1, STOP);
        due("run", run(x, 0, 0), STOPPED);
        due("PATCH puts f", x.look(NONE, 0, 0), 4);
        due("place", x.look(NONE, 0, 1), 50);
        due("first", x.look(NONE, 1, 1), 1);
        due("second", x.look(NONE, 2, 1), 9);
        dueFault("PATCH 2", 9, 4, INT, 1, INT, 2, CLOSURE, 50, 2, INT, 9, PATCH, 2);
        dueFault("PATCH -1", 9, 4, INT, 1, INT, 2, CLOSURE, 50, 2, INT, 9, PATCH, -1);
        dueFault("PATCH of a record", 6, 3, INT, 1, RECORD, 1, INT, 9, PATCH, 0);
        dueFault("PATCH of one", 3, 1, CLOSURE, 0, 0, PATCH, 0);
        CellEngine z = with(LOCALS, 1, INT, 4095, STORE, 0);
        z.limits(4096, 0, 0);
        due("closure of 4,095", bigClosure(z, 4095), STOPPED);
        due("parts", z.look(NONE, 0, 2), 4095);
        due("reached", z.reached(), 4096);
        CellEngine w = with(LOCALS, 1, INT, 4095, STORE, 0);
        w.limits(4095, 0, 0);
        due("no room for it", bigClosure(w, 4095), NO_ROOM);
        CellEngine v = with(LOCALS, 1, INT, 4096, STORE, 0);
        due("closure of 4,096", bigClosure(v, 4096), FAULT);
    }

    /** Puts as many scalars as local 0 tells, and makes a closure of them. */
    private static int bigClosure(CellEngine x, int n) {
        int loop = x.count(0);
        add(x, LOCAL, 0, UNLESS, loop + 16, LOCAL, 0, LOCAL, 0, INT, 1, PRIM, 1, STORE, 0, JUMP, loop);
        add(x, CLOSURE, 7, n, STOP);
        return run(x, 0, 0);
    }

    private static void frameInstructions() {
        where = "instructions 5, 17 to 19";
        // f at 8 adds its argument to what is captured.
        dueScalar("CALL and RETURN", 42,
            INT, 40, CLOSURE, 9, 1, INT, 2, CALL, STOP, FREE, 0, LOCAL, 0, PRIM, 0, RETURN);
        dueScalar("the stack below stays", 142,
            INT, 100, INT, 40, CLOSURE, 13, 1, INT, 2, CALL, PRIM, 0, STOP, FREE, 0, LOCAL, 0, PRIM, 0, RETURN);
        dueScalar("locals below stay", 5, LOCALS, 1, INT, 5, STORE, 0, CLOSURE, 16, 0, INT, 2, CALL, POP, LOCAL, 0, STOP,
            INT, 9, STORE, 0, LOCAL, 0, RETURN);
        dueFault("RETURN of the first frame", 2, 1, INT, 1, RETURN);
        dueFault("CALL of a scalar", 4, 2, INT, 1, INT, 2, CALL);
        dueFault("CALL of one", 3, 1, CLOSURE, 0, 0, CALL);
        dueFault("TAIL of a record", 6, 3, INT, 1, RECORD, 1, INT, 2, TAIL);
        dueFault("RETURN of nothing", 6, 3, CLOSURE, 6, 0, INT, 1, CALL, RETURN);
        dueFault("the stack below is not the frame's", 8, 4, INT, 4, CLOSURE, 8, 0, INT, 1, CALL, POP);
        dueFault("FREE 1", 8, 4, INT, 4, CLOSURE, 8, 1, INT, 1, CALL, FREE, 1);
        dueFault("FREE -1", 8, 4, INT, 4, CLOSURE, 8, 1, INT, 1, CALL, FREE, -1);
        CellEngine x = dueEnd("CALL beyond the code", FAULT, 1000, 3, CLOSURE, 1000, 0, INT, 1, CALL);
        due("frames", x.count(6), 2);
        dueEnd("CALL before the code", FAULT, -7, 3, CLOSURE, -7, 0, INT, 1, CALL);
        CellEngine y = dueEnd("TAIL in the first frame", FAULT, 12, 6, INT, 5, INT, 6, CLOSURE, 10, 1, INT, 7, TAIL,
            FREE, 0, RETURN);
        due("frames", y.count(6), 1);
        due("values", y.count(7), 2);
        due("a new run has no closure", y.start(10, 0), true);
        due("FREE", y.step(1), FAULT);
        // A loop of tail calls stays one frame; it goes back where the first call came from.
        CellEngine z = with(CLOSURE, 12, 0, SETGLOBAL, 1, GLOBAL, 1, INT, 20000, CALL, STOP, 0);
        add(z, LOCAL, 0, UNLESS, 25, GLOBAL, 1, LOCAL, 0, INT, 1, PRIM, 1, TAIL, INT, 77, RETURN);
        due("run", run(z, 0, 0), STOPPED);
        due("result", z.look(NONE, 0, 1), 77);
        due("frames", z.count(6), 1);
        due("values", z.count(7), 0);
        // TAIL leaves the frame with local 0 alone, and its stack empty.
        CellEngine v = dueEnd("TAIL drops locals", FAULT, 17, 8, CLOSURE, 7, 0, INT, 1, CALL, STOP,
            LOCALS, 5, INT, 1, CLOSURE, 17, 0, INT, 8, TAIL, LOCAL, 1);
        due("values", v.count(7), 1);
    }

    private static void jumpInstructions() {
        where = "instructions 20 to 22";
        dueScalar("JUMP", 2, JUMP, 5, INT, 1, STOP, INT, 2, STOP);
        dueFault("JUMP beyond", 99, 1, JUMP, 99);
        dueFault("JUMP before", -1, 1, JUMP, -1);
        dueFault("JUMP to the least int", MIN, 1, JUMP, MIN);
        dueScalar("UNLESS 0", 2, INT, 0, UNLESS, 7, INT, 1, STOP, INT, 2, STOP);
        dueScalar("UNLESS -1", 1, INT, -1, UNLESS, 7, INT, 1, STOP, INT, 2, STOP);
        dueFault("UNLESS of a name", 2, 1, NAME, 0, UNLESS, 0);
        dueFault("UNLESS beyond", 50, 2, INT, 0, UNLESS, 50);
        int[] want = {13, 10, 11, 12, 13, 13, 13};
        int[] on = {-1, 0, 1, 2, 3, MAX, MIN};
        for (int k = 0; k < on.length; k++) {
            dueScalar("SWITCH on " + on[k], want[k], INT, on[k], SWITCH, 3, 8, 11, 14, 17,
                INT, 10, STOP, INT, 11, STOP, INT, 12, STOP, INT, 13, STOP);
        }
        dueScalar("SWITCH 0", 9, INT, 0, SWITCH, 0, 5, INT, 9, STOP);
        dueFault("SWITCH -1", 2, 1, INT, 0, SWITCH, -1, 5, INT, 9, STOP);
        dueFault("SWITCH of a string", 2, 1, NAME, 0, SWITCH, 0, 0);
        dueFault("last place beyond the code", 2, 1, INT, 0, SWITCH, 2, 0, 0);
        dueFault("number beyond the code", 2, 1, INT, 0, SWITCH);
        dueFault("SWITCH of nothing", 0, 0, SWITCH, 0, 3);
        dueFault("SWITCH beyond", 77, 2, INT, 1, SWITCH, 1, 0, 77);
        int[] wide = {INT, 254, SWITCH, 255};
        for (int k = 0; k <= 255; k++) {
            wide = join(wide, k == 254 ? 260 : 3000);
        }
        dueScalar("SWITCH 255", 5, join(wide, INT, 5, STOP));
        int[] tooWide = {INT, 0, SWITCH, 256};
        for (int k = 0; k <= 256; k++) {
            tooWide = join(tooWide, 261);
        }
        dueFault("SWITCH 256", 2, 1, join(tooWide, INT, 5, STOP));
    }

    private static void handlers() {
        where = "instructions 26 to 28";
        CellEngine x = with(INT, 4, DEPTH, 3, HANDLE, 15, DEPTH, 5, INT, 6, INT, 7, NAME, 8, RAISE, RECORD, 2, STOP);
        due("run", run(x, 0, 0), STOPPED);
        due("stack", x.look(NONE, 1, 1), 4);
        due("raised", x.look(NONE, 2, 0), 1);
        due("raised", x.look(NONE, 2, 1), 8);
        due("depth", x.count(5), 3);
        due("handlers", x.count(8), 0);
        // Frames above go: raised two calls deep, caught in the first frame.
        CellEngine y = with(HANDLE, 10, CLOSURE, 11, 0, INT, 5, CALL, STOP, STOP, STOP,
            CLOSURE, 17, 0, INT, 6, CALL, NAME, 4, LOCAL, 0, PACKET, RAISE);
        due("run", run(y, 0, 0), STOPPED);
        due("kind", y.look(NONE, 0, 0), 7);
        due("name", y.look(NONE, 0, 1), 4);
        due("value", y.look(NONE, 1, 1), 6);
        due("frames", y.count(6), 1);
        due("place", y.count(10), 11);
        // The stack and the locals of the handler's frame stay, what it had above the handler's height goes.
        CellEngine k = with(LOCALS, 2, INT, 3, HANDLE, 15, INT, 4, CLOSURE, 18, 0, INT, 5, CALL, 0, RECORD, 2, STOP,
            NAME, 6, RAISE);
        due("run", run(k, 0, 0), STOPPED);
        due("stack", k.look(NONE, 1, 1), 3);
        due("raised", k.look(NONE, 2, 1), 6);
        due("locals", k.count(7), 2);
        // The newest handler catches; the older one is there still.
        CellEngine z = with(HANDLE, 9, HANDLE, 12, NAME, 1, RAISE, 0, 0, INT, 90, STOP, POP, NAME, 2, RAISE);
        due("run", run(z, 0, 0), STOPPED);
        due("by the older one", z.look(NONE, 0, 1), 90);
        due("values", z.count(7), 1);
        CellEngine w = dueEnd("UNHANDLE", RAISED, 6, 4, HANDLE, 0, UNHANDLE, NAME, 6, RAISE);
        due("raised", w.look(NONE, 0, 1), 6);
        due("kind", w.look(NONE, 0, 0), 1);
        dueFault("UNHANDLE of none", 0, 0, UNHANDLE);
        dueFault("UNHANDLE of another frame's", 8, 4, HANDLE, 0, CLOSURE, 8, 0, INT, 1, CALL, UNHANDLE);
        dueFault("RETURN with a handler", 10, 5, CLOSURE, 6, 0, INT, 1, CALL, HANDLE, 0, LOCAL, 0, RETURN);
        dueFault("TAIL with a handler", 7, 3, HANDLE, 0, CLOSURE, 0, 0, INT, 1, TAIL);
        dueScalar("RETURN over another frame's", 1, HANDLE, 0, CLOSURE, 9, 0, INT, 1, CALL, STOP, LOCAL, 0, RETURN);
        dueScalar("TAIL and RETURN over another frame's", 2,
            HANDLE, 0, CLOSURE, 9, 0, INT, 1, CALL, STOP, CLOSURE, 15, 0, INT, 2, TAIL, LOCAL, 0, RETURN);
        dueFault("RAISE of a scalar", 2, 1, INT, 1, RAISE);
        dueFault("RAISE of nothing", 0, 0, RAISE);
        // With less on the stack than the handler saw it is a fault: by POP, by CALL, by LOCALS.
        CellEngine v = dueEnd("lower stack", FAULT, 7, 4, INT, 1, HANDLE, 0, POP, NAME, 1, RAISE);
        due("does nothing", v.count(8), 1);
        due("does nothing", v.count(7), 1);
        dueFault("what is taken does not count", 4, 2, NAME, 1, HANDLE, 9, RAISE);
        dueFault("lower by CALL", 10, 5, CLOSURE, 8, 0, INT, 1, HANDLE, 0, CALL, NAME, 1, RAISE);
        dueFault("lower by LOCALS", 8, 4, INT, 1, HANDLE, 0, LOCALS, 9, NAME, 1, RAISE);
        dueScalar("as high", 3, INT, 3, INT, 1, HANDLE, 9, NAME, 1, RAISE, POP, POP, STOP);
        dueEnd("handler beyond the code", FAULT, 60, 3, HANDLE, 60, NAME, 1, RAISE);
        CellEngine u = dueEnd("no handler", RAISED, 9, 5, CLOSURE, 6, 0, INT, 1, CALL, NAME, 5, RAISE, STOP);
        due("frames stay", u.count(6), 2);
    }

    private static void names() {
        where = "instructions 29 to 32";
        CellEngine x = with(NAME, 5, DUP, INT, 1, PACKET, NAMEOF, SAME, STOP);
        due("run", run(x, 0, 0), STOPPED);
        due("NAMEOF a packet", x.look(NONE, 0, 1), 1);
        dueScalar("NAMEOF a name", 1, NAME, 5, DUP, NAMEOF, SAME, STOP);
        dueScalar("two names", 0, NAME, 5, NAME, 5, SAME, STOP);
        dueScalar("one instruction makes many", 0, INT, 0, SETGLOBAL, 9, NAME, 5, GLOBAL, 9, UNLESS, 14,
            SAME, STOP, 0, 0, INT, 1, SETGLOBAL, 9, JUMP, 4);
        dueFault("NAME -1", 0, 0, NAME, -1);
        dueFault("NAME 65536", 0, 0, NAME, 65536);
        dueFault("NAMEOF a scalar", 2, 1, INT, 4, NAMEOF);
        dueFault("NAMEOF something constructed", 4, 2, INT, 4, BUILD, 1, NAMEOF);
        dueFault("PACKET of a scalar", 4, 2, INT, 4, INT, 5, PACKET);
        dueFault("PACKET of a packet", 7, 4, NAME, 4, INT, 5, PACKET, INT, 4, PACKET);
        dueFault("PACKET of one", 2, 1, NAME, 4, PACKET);
        dueScalar("SAME scalars", 1, INT, -3, INT, -3, SAME, STOP);
        dueScalar("SAME other scalars", 0, INT, -3, INT, 3, SAME, STOP);
        dueScalar("SAME name and scalar", 0, NAME, 3, INT, 3, SAME, STOP);
        dueScalar("SAME records", 0, INT, 1, RECORD, 1, INT, 1, RECORD, 1, SAME, STOP);
        dueScalar("SAME record", 1, INT, 1, RECORD, 1, DUP, SAME, STOP);
        dueFault("SAME of one", 2, 1, INT, 1, SAME);
    }

    private static void equality() {
        where = "instruction 33";
        dueScalar("scalars", 1, INT, 7, INT, 7, EQUAL, STOP);
        dueScalar("other scalars", 0, INT, 7, INT, 8, EQUAL, STOP);
        dueScalar("records", 1, INT, 7, INT, 8, RECORD, 2, INT, 7, INT, 8, RECORD, 2, EQUAL, STOP);
        dueScalar("other records", 0, INT, 7, INT, 8, RECORD, 2, INT, 7, INT, 9, RECORD, 2, EQUAL, STOP);
        dueScalar("shorter record", 0, INT, 7, INT, 8, RECORD, 2, INT, 7, RECORD, 1, EQUAL, STOP);
        dueScalar("constructed", 1, INT, 7, BUILD, 3, INT, 7, BUILD, 3, EQUAL, STOP);
        dueScalar("another tag", 0, INT, 7, BUILD, 3, INT, 7, BUILD, 4, EQUAL, STOP);
        dueScalar("another value", 0, INT, 7, BUILD, 3, INT, 8, BUILD, 3, EQUAL, STOP);
        dueScalar("scalar and constructed", 0, INT, 3, INT, 7, BUILD, 3, EQUAL, STOP);
        dueScalar("constructed and record", 0, INT, 7, RECORD, 1, INT, 7, BUILD, 0, EQUAL, STOP);
        dueScalar("references", 0, INT, 7, REF, INT, 7, REF, EQUAL, STOP);
        dueScalar("a reference", 1, INT, 7, REF, DUP, EQUAL, STOP);
        dueScalar("a reference in records", 1, INT, 7, REF, DUP, RECORD, 1, SWAP, RECORD, 1, EQUAL, STOP);
        dueScalar("closures", 0, CLOSURE, 1, 0, CLOSURE, 1, 0, EQUAL, STOP);
        dueScalar("a closure", 1, CLOSURE, 1, 0, DUP, EQUAL, STOP);
        dueScalar("names", 0, NAME, 1, NAME, 1, EQUAL, STOP);
        dueScalar("packets", 0, NAME, 1, DUP, INT, 1, PACKET, SWAP, INT, 1, PACKET, EQUAL, STOP);
        dueFault("of one", 2, 1, INT, 1, EQUAL);
        CellEngine x = new CellEngine();
        text(x, "abcd");
        text(x, "abcde");
        text(x, "bc");
        add(x, TEXT, 0, TEXT, 0, EQUAL, TEXT, 0, TEXT, 1, EQUAL, RECORD, 2, STOP);
        due("run", run(x, 0, 0), STOPPED);
        due("strings", x.look(NONE, 1, 1), 1);
        due("other strings", x.look(NONE, 2, 1), 0);
        x.cut(0);
        add(x, TEXT, 0, TEXT, 1, INT, 0, INT, 4, PRIM, 30, EQUAL);
        add(x, TEXT, 1, INT, 1, INT, 2, PRIM, 30, TEXT, 2, EQUAL);
        add(x, TEXT, 0, INT, 'e', PRIM, 29, PRIM, 27, TEXT, 1, EQUAL, RECORD, 3, STOP);
        due("run", run(x, 0, 0), STOPPED);
        due("part of a string", x.look(NONE, 1, 1), 1);
        due("parts of strings", x.look(NONE, 2, 1), 1);
        due("joined", x.look(NONE, 3, 1), 1);
        // What is found of two values says nothing of the next two.
        dueScalar("one after the other", 1, INT, 7, RECORD, 1, INT, 8, RECORD, 1, EQUAL, POP,
            INT, 9, RECORD, 1, INT, 9, RECORD, 1, EQUAL, STOP);
        dueScalar("one after the other", 0, INT, 7, RECORD, 1, SETGLOBAL, 8, INT, 8, RECORD, 1, SETGLOBAL, 9,
            GLOBAL, 8, BUILD, 1, GLOBAL, 9, BUILD, 1, EQUAL, POP, GLOBAL, 8, GLOBAL, 9, EQUAL, STOP);
        sharedParts();
    }

    /** Two towers of records, each of which leads to the one below twice or more: the ways down are 2 to the 1,000. */
    private static void sharedParts() {
        for (int width = 2; width <= 4; width++) {
            dueTowers(width, 1);
            dueTowers(width, 2);
        }
    }

    private static void dueTowers(int width, int last) {
        String what = "towers of " + width + " on " + last;
        CellEngine x = with(INT, 1, SETGLOBAL, 10, INT, last, SETGLOBAL, 11, TICK);
        for (int global = 10; global <= 11; global++) {
            add(x, GLOBAL, global);
            for (int k = 1; k < width; k++) {
                x.code(DUP);
            }
            add(x, RECORD, width, SETGLOBAL, global);
        }
        add(x, JUMP, 8);
        due(what + " run", run(x, 0, 1000), NO_FUEL);
        int place = x.count(0);
        add(x, GLOBAL, 10, GLOBAL, 11, EQUAL, GLOBAL, 11, GLOBAL, 10, EQUAL, RECORD, 2, STOP);
        due(what + " run", run(x, place, 0), STOPPED);
        due(what, x.look(NONE, 1, 1), last == 1 ? 1 : 0);
        due(what, x.look(NONE, 2, 1), last == 1 ? 1 : 0);
        due(what + " again", run(x, place, 0), STOPPED);
        due(what, x.look(NONE, 1, 1), last == 1 ? 1 : 0);
    }

    private static void numbers() {
        where = "primitives 0 to 10";
        duePrimitive(0, 5, -7, -2);
        duePrimitive(0, MAX - 1, 1, MAX);
        dueRaises(0, 2, MAX, 1);
        dueRaises(0, 2, MIN, -1);
        duePrimitive(1, 5, 7, -2);
        duePrimitive(1, -1, MAX, MIN);
        dueRaises(1, 2, -2, MAX);
        dueRaises(1, 2, 0, MIN);
        duePrimitive(2, -5, 7, -35);
        duePrimitive(2, 65536, -32768, MIN);
        dueRaises(2, 2, 65536, 32768);
        dueRaises(2, 2, MIN, MIN);
        dueRaises(2, 2, MIN, -1);
        duePrimitive(3, 5, -5);
        duePrimitive(3, MAX, -MAX);
        dueRaises(3, 2, MIN);
        duePrimitive(4, -5, 5);
        duePrimitive(4, 5, 5);
        dueRaises(4, 2, MIN);
        duePrimitive(5, 7, 2, 3);
        duePrimitive(5, -7, 2, -4);
        duePrimitive(5, 7, -2, -4);
        duePrimitive(5, -7, -2, 3);
        duePrimitive(5, -8, 2, -4);
        duePrimitive(5, MIN, 1, MIN);
        dueRaises(5, 3, 7, 0);
        dueRaises(5, 2, MIN, -1);
        duePrimitive(6, 7, 2, 1);
        duePrimitive(6, -7, 2, 1);
        duePrimitive(6, 7, -2, -1);
        duePrimitive(6, -7, -2, -1);
        duePrimitive(6, MIN, -1, 0);
        dueRaises(6, 3, 7, 0);
        int[][] compared = {{1, 2, 1, 0, 1, 0}, {2, 1, 0, 1, 0, 1}, {2, 2, 0, 0, 1, 1}, {MIN, MAX, 1, 0, 1, 0}, {-1, 1, 1, 0, 1, 0}};
        for (int[] c : compared) {
            for (int k = 0; k < 4; k++) {
                duePrimitive(7 + k, c[0], c[1], c[2 + k]);
            }
        }
        dueFault("+ of a name", 4, 2, INT, 1, NAME, 1, PRIM, 0);
        dueFault("+ of a record", 6, 3, INT, 1, RECORD, 1, INT, 1, PRIM, 0);
        dueFault("+ of one", 2, 1, INT, 1, PRIM, 0);
        dueFault("- of nothing", 0, 0, PRIM, 3);
        dueFault("primitive 42", 6, 3, INT, 1, INT, 1, INT, 1, PRIM, 42);
        dueFault("primitive -1", 6, 3, INT, 1, INT, 1, INT, 1, PRIM, -1);
    }

    private static void naturals() {
        where = "primitives 11 to 26";
        duePrimitive(11, -1, 3, 2);
        duePrimitive(11, MAX, 1, MIN);
        duePrimitive(12, 1, 3, -2);
        duePrimitive(13, -1, -1, 1);
        duePrimitive(13, 65536, 65537, 65536);
        duePrimitive(14, -1, 2, MAX);
        duePrimitive(14, -1, -1, 1);
        duePrimitive(14, 5, -1, 0);
        duePrimitive(14, MIN, -1, 0);
        dueRaises(14, 3, 5, 0);
        duePrimitive(15, -1, 10, 5);
        duePrimitive(15, 7, -1, 7);
        duePrimitive(15, -1, MIN, MAX);
        dueRaises(15, 3, 5, 0);
        int[][] compared = {{1, 2, 1, 0, 1, 0}, {2, 1, 0, 1, 0, 1}, {-2, -2, 0, 0, 1, 1}, {MIN, MAX, 0, 1, 0, 1}, {1, -1, 1, 0, 1, 0}};
        for (int[] c : compared) {
            for (int k = 0; k < 4; k++) {
                duePrimitive(16 + k, c[0], c[1], c[2 + k]);
            }
        }
        duePrimitive(20, 12, 10, 8);
        duePrimitive(21, 12, 10, 14);
        duePrimitive(22, 12, 10, 6);
        duePrimitive(22, -1, 10, -11);
        duePrimitive(23, 0, -1);
        duePrimitive(23, 5, -6);
        duePrimitive(24, 3, 0, 3);
        duePrimitive(24, 3, 31, MIN);
        duePrimitive(24, 3, 32, 0);
        duePrimitive(24, 3, -1, 0);
        duePrimitive(24, 3, MIN, 0);
        duePrimitive(25, -1, 0, -1);
        duePrimitive(25, -1, 31, 1);
        duePrimitive(25, -1, 1, MAX);
        duePrimitive(25, -1, 32, 0);
        duePrimitive(25, -1, -32, 0);
        duePrimitive(26, MAX, MAX);
        duePrimitive(26, 0, 0);
        dueRaises(26, 2, MIN);
        dueRaises(26, 2, -1);
    }

    private static void strings() {
        where = "primitives 27 to 39";
        for (int n = 0; n < 6; n++) {
            String v = "abcdefgh".substring(0, n);
            dueText("27", v + "vwxyz", 1 + (n + 5 + 3) / 4, withTexts(v, "vwxyz", TEXT, 0, TEXT, 1, PRIM, 27, STOP));
        }
        dueText("27 of none", "", 1, withTexts("", "", TEXT, 0, TEXT, 1, PRIM, 27, STOP));
        dueNumber("28", 5, withTexts("hello", "", TEXT, 0, PRIM, 28, STOP));
        dueNumber("28", 0, withTexts("hello", "", TEXT, 1, PRIM, 28, STOP));
        dueText("29", "\u00ff", 2, withTexts("", "", INT, 255, PRIM, 29, STOP));
        dueText("29", "\u0000", 2, withTexts("", "", INT, 0, PRIM, 29, STOP));
        dueFault("29 of 256", 22, 11, join(RAISES, INT, 256, PRIM, 29));
        dueFault("29 of -1", 22, 11, join(RAISES, INT, -1, PRIM, 29));
        dueText("30", "ell", 2, withTexts("hello", "", TEXT, 0, INT, 1, INT, 3, PRIM, 30, STOP));
        dueText("30", "hello", 3, withTexts("hello", "", TEXT, 0, INT, 0, INT, 5, PRIM, 30, STOP));
        dueText("30", "", 1, withTexts("hello", "", TEXT, 0, INT, 5, INT, 0, PRIM, 30, STOP));
        int[][] outside = {{-1, 2}, {0, -1}, {0, 6}, {6, 0}, {5, 1}, {MAX, 1}, {1, MAX}, {MAX, MAX}, {MIN, MIN}};
        for (int[] o : outside) {
            dueNamed("30", 4, withTexts("hello", "", TEXT, 0, INT, o[0], INT, o[1], PRIM, 30, STOP));
        }
        dueNumber("31", 'o', withTexts("hello", "", TEXT, 0, INT, 4, PRIM, 31, STOP));
        dueNumber("31", 200, withTexts("\u00c8", "", TEXT, 0, INT, 0, PRIM, 31, STOP));
        dueNamed("31", 4, withTexts("hello", "", TEXT, 0, INT, 5, PRIM, 31, STOP));
        dueNamed("31", 4, withTexts("hello", "", TEXT, 0, INT, -1, PRIM, 31, STOP));
        dueOrders();
        dueText("38", "0", 2, withTexts("", "", INT, 0, PRIM, 38, STOP));
        dueText("38", "~7", 2, withTexts("", "", INT, -7, PRIM, 38, STOP));
        dueText("38", "10", 2, withTexts("", "", INT, 10, PRIM, 38, STOP));
        dueText("38", "99999", 3, withTexts("", "", INT, 99999, PRIM, 38, STOP));
        dueText("38", "2147483647", 4, withTexts("", "", INT, MAX, PRIM, 38, STOP));
        dueText("38", "~2147483648", 4, withTexts("", "", INT, MIN, PRIM, 38, STOP));
        duePrimitive(39, 0, 0);
        duePrimitive(39, 255, 255);
        dueRaises(39, 6, 256);
        dueRaises(39, 6, -1);
        int[] ofStrings = {27, 28, 30, 31, 32, 33, 34, 35, 36, 37, 41};
        for (int p : ofStrings) {
            dueFault(p + " of scalars", 6, 3, INT, 1, INT, 1, INT, 1, PRIM, p);
        }
        due("38 of a string", run(withTexts("7", "", TEXT, 0, PRIM, 38), 0, 0), FAULT);
        due("39 of a string", run(withTexts("7", "", TEXT, 0, PRIM, 39), 0, 0), FAULT);
        due("27 of a string and a scalar", run(withTexts("7", "", TEXT, 0, INT, 1, PRIM, 27), 0, 0), FAULT);
        due("31 of two strings", run(withTexts("7", "", TEXT, 0, TEXT, 0, PRIM, 31), 0, 0), FAULT);
        longStrings();
        dueMade();
    }

    private static void dueOrders() {
        String[][] pairs = {{"a", "b"}, {"a", "ab"}, {"", "a"}, {"abcd", "abcde"}, {"abcdz", "abcez"}, {"z", "\u0080"},
            {"abcd\u0001", "abcd\u0002"}, {"abcdefgh", "abcdefgi"}};
        for (String[] pair : pairs) {
            dueOrder(pair[0], pair[1], -1);
            dueOrder(pair[1], pair[0], 1);
            dueOrder(pair[0], pair[0], 0);
        }
        // Bytes 0 can't be in constants, but they can be made: "a" comes before "a" and a byte 0.
        dueNumber("32 with byte 0", -1, withZero(32));
        dueNumber("36 with byte 0", 0, withZero(36));
        dueNumber("33 with byte 0", 1, withZero(33));
    }

    private static CellEngine withZero(int p) {
        CellEngine x = withTexts("a", "", TEXT, 0, DUP, INT, 0, PRIM, 29, PRIM, 27, SETGLOBAL, 20, STOP);
        run(x, 0, 0);
        x.cut(0);
        add(x, TEXT, 0, GLOBAL, 20, PRIM, p, STOP);
        return x;
    }

    private static void dueOrder(String v, String w, int order) {
        int[] want = {order, order < 0 ? 1 : 0, order > 0 ? 1 : 0, order <= 0 ? 1 : 0, order >= 0 ? 1 : 0};
        for (int k = 0; k < 5; k++) {
            dueNumber(32 + k + " of " + v + ", " + w, want[k], withTexts(v, w, TEXT, 0, TEXT, 1, PRIM, 32 + k, STOP));
        }
    }

    private static void longStrings() {
        CellEngine x = withTexts("1234567", "12345678", TEXT, 1);
        for (int k = 0; k < 13; k++) {
            add(x, DUP, PRIM, 27);
            if (k == 11) {
                add(x, DUP, SETGLOBAL, 20);
            }
        }
        // 2 to the 16 bytes are one too many.
        due("65,536", run(x, 0, 0), RAISED);
        due("65,536", x.look(NONE, 0, 1), 105);
        due("length", x.look(20, 0, 1), 32768);
        int place = x.count(0);
        add(x, GLOBAL, 20, DUP, INT, 0, INT, 32767, PRIM, 30, PRIM, 27, DUP, PRIM, 28, SETGLOBAL, 21, STOP);
        due("65,535", run(x, place, 0), STOPPED);
        due("length", x.look(NONE, 0, 1), 65535);
        due("length", x.look(21, 0, 1), 65535);
        due("last byte", x.byteOf(NONE, 0, 65534), '7');
        due("byte", x.byteOf(NONE, 0, 32768), '1');
        due("none", x.byteOf(NONE, 0, 65535), NONE);
        due("cells", x.reached(), 8193 + 16385);
    }

    /** What 27, 29, 30, 38, 40 and 41 make counts as made, and has the limit of it. */
    private static void dueMade() {
        int[][] makers = {
            {3, TEXT, 0, TEXT, 0, PRIM, 27}, {2, INT, 65, PRIM, 29}, {2, TEXT, 0, INT, 1, INT, 2, PRIM, 30},
            {2, INT, 65, PRIM, 38}, {1, INT, 0, PRIM, 40}, {20, TEXT, 0, PRIM, 41}};
        for (int[] maker : makers) {
            int[] code = java.util.Arrays.copyOfRange(maker, 1, maker.length);
            CellEngine x = withTexts("four", "", code);
            x.code(STOP);
            x.limits(1000, maker[0], 0);
            due("enough", run(x, 0, 0), STOPPED);
            due("made", x.count(4), maker[0]);
            x.limits(1000, maker[0] - 1, 0);
            due("not enough", run(x, 0, 0), NO_ROOM);
            due("made", x.count(4), 0);
            due("place", x.count(10), RAISES.length + code.length - 2);
        }
        CellEngine y = withTexts("", "", MAKE, 5, TEXT, 0, PRIM, 41, STOP);
        y.start(0, 0);
        y.step(12);
        due("41 of none", y.limits(0, 0, 0), true);
        due("asks for none", y.step(1), ON);
        due("stops", y.step(1), STOPPED);
        due("list", y.look(NONE, 0, 0), 0);
        due("made", y.count(4), 5);
    }

    private static void lists() {
        where = "primitives 40 and 41";
        CellEngine x = withTexts("a\u00ff", "", TEXT, 0, PRIM, 41, STOP);
        due("run", run(x, 0, 0), STOPPED);
        due("constructed", x.look(NONE, 0, 0), 3);
        due("tag", x.look(NONE, 0, 1), 1);
        due("record", x.look(NONE, 1, 2), 2);
        due("first", x.look(NONE, 0x0101, 1), 'a');
        due("second", x.look(NONE, 0x01010201, 1), 255);
        due("end", x.look(NONE, 0x02010201, 0), 0);
        due("end", x.look(NONE, 0x02010201, 1), 0);
        due("cells", x.reached(), 10);
        due("made", x.count(4), 10);
        dueText("40 of none", "", 1, withTexts("", "", INT, 0, PRIM, 40, STOP));
        dueText("40 of one", "A", 2, withTexts("", "", INT, 65, INT, 0, RECORD, 2, BUILD, 1, PRIM, 40, STOP));
        dueText("40 of 41", "hello, list", 55 + 4, withTexts("hello, list", "", TEXT, 0, PRIM, 41, PRIM, 40, STOP));
        dueFault("40 of 1", 2, 1, INT, 1, PRIM, 40);
        dueFault("40 of a name", 2, 1, NAME, 0, PRIM, 40);
        dueFault("40 of nothing", 0, 0, PRIM, 40);
        dueFault("40 of another tag", 8, 4, INT, 65, INT, 0, RECORD, 2, BUILD, 2, PRIM, 40);
        dueFault("40 of a record of one", 6, 3, INT, 65, RECORD, 1, BUILD, 1, PRIM, 40);
        dueFault("40 of a record of three", 10, 5, INT, 65, INT, 0, INT, 0, RECORD, 3, BUILD, 1, PRIM, 40);
        dueFault("40 of 256", 8, 4, INT, 256, INT, 0, RECORD, 2, BUILD, 1, PRIM, 40);
        dueFault("40 of -1", 8, 4, INT, -1, INT, 0, RECORD, 2, BUILD, 1, PRIM, 40);
        dueFault("40 of names", 8, 4, NAME, 1, INT, 0, RECORD, 2, BUILD, 1, PRIM, 40);
        dueFault("40 ends in 5", 8, 4, INT, 65, INT, 5, RECORD, 2, BUILD, 1, PRIM, 40);
        dueFault("40 of constructed of a scalar", 4, 2, INT, 65, BUILD, 1, PRIM, 40);
        CellEngine y = withTexts("12345678", "", TEXT, 0, PRIM, 41, STOP);
        y.limits(43, 1000, 0);
        due("the list counts as one: room", run(y, 0, 0), STOPPED);
        due("cells", y.reached(), 40);
        y.limits(42, 1000, 0);
        due("the string is reached still: no room", run(y, 0, 0), NO_ROOM);
        due("place", y.count(10), 22);
    }

    private static void faults() {
        where = "faults";
        dueFault("no code", 0, 0);
        dueFault("instruction 40", 0, 0, 40);
        dueFault("instruction -1", 0, 0, -1);
        dueFault("instruction of the least int", 0, 0, MIN);
        dueFault("behind the last one", 2, 1, INT, 1);
        int[] withOperand = {INT, TEXT, LOCAL, FREE, GLOBAL, JUMP, HANDLE, NAME, MAKE, LOCALS, DEPTH, CLOSURE};
        for (int op : withOperand) {
            dueFault("operand of " + op + " beyond the code", 0, 0, op);
        }
        int[] taking = {STORE, SETGLOBAL, RECORD, FIELD, BUILD, PATCH, UNLESS, SWITCH, PRIM};
        for (int op : taking) {
            dueFault("operand of " + op + " beyond the code", 4, 2, INT, 0, INT, 0, op);
        }
        dueFault("second operand of CLOSURE beyond the code", 0, 0, CLOSURE, 0);
        CellEngine x = dueEnd("a fault does nothing", FAULT, 6, 4, INT, 1, REF, INT, 2, SWAP, PUT);
        due("values", x.count(7), 2);
        due("handlers", x.count(8), 0);
    }

    private static void roomOfCells() {
        where = "room of cells";
        // What an instruction takes is reached until it is done.
        CellEngine x = with(INT, 1, RECORD, 1, RECORD, 1, STOP);
        x.limits(4, 0, 0);
        due("record of a record", run(x, 0, 0), STOPPED);
        x.limits(3, 0, 0);
        due("not quite", run(x, 0, 0), NO_ROOM);
        due("place", x.count(10), 4);
        due("values", x.count(7), 1);
        // 27 takes two strings of 2 cells, and makes one of 3.
        CellEngine y = withTexts("abcd", "efgh", TEXT, 0, TEXT, 1, PRIM, 27, STOP);
        y.limits(7, 100, 0);
        due("27", run(y, 0, 0), STOPPED);
        y.limits(6, 100, 0);
        due("27 not quite", run(y, 0, 0), NO_ROOM);
        due("made", y.count(4), 0);
        // Cells that nothing leads to are used again.
        CellEngine z = with(TICK, INT, 1, REF, POP, JUMP, 0);
        z.limits(2, 0, 0);
        due("again and again", run(z, 0, 1000), NO_FUEL);
        z.limits(1, 0, 0);
        due("never", run(z, 0, 1000), NO_ROOM);
        // A frame's closure is reached, though nothing else leads to it; behind TAIL the new one is.
        CellEngine w = with(INT, 1, INT, 2, CLOSURE, 10, 2, INT, 0, CALL, INT, 5, REF, FREE, 1, STOP);
        w.limits(5, 0, 0);
        due("closure and reference", run(w, 0, 0), STOPPED);
        due("captured", w.look(NONE, 0, 1), 2);
        w.limits(4, 0, 0);
        due("not quite", run(w, 0, 0), NO_ROOM);
        due("place", w.count(10), 12);
        // Locals are reached, and so are the stacks of the frames below.
        CellEngine v = with(INT, 1, REF, LOCALS, 0, CLOSURE, 13, 0, INT, 2, REF, CALL, STOP, INT, 3, REF, STOP);
        v.limits(5, 0, 0);
        due("closure, argument, reference", run(v, 0, 0), STOPPED);
        v.limits(4, 0, 0);
        due("not quite", run(v, 0, 0), NO_ROOM);
        due("place", v.count(10), 15);
        CellEngine u = with(INT, 1, REF, CLOSURE, 11, 0, INT, 2, CALL, STOP, STOP, INT, 3, REF, STOP);
        u.limits(5, 0, 0);
        due("stack below, closure, reference", run(u, 0, 0), STOPPED);
        u.limits(4, 0, 0);
        due("not quite", run(u, 0, 0), NO_ROOM);
        due("place", u.count(10), 13);
        // NAME makes no object.
        CellEngine t = with(NAME, 1, STOP);
        t.limits(0, 0, 0);
        due("NAME", run(t, 0, 0), STOPPED);
        int[][] makers = {{2, INT, 1, RECORD, 1}, {2, INT, 1, BUILD, 1}, {1, CLOSURE, 0, 0}, {2, INT, 1, REF},
            {2, NAME, 1, INT, 1, PACKET}, {2, INT, 65, PRIM, 29}, {2, INT, 6, PRIM, 38}, {1, INT, 0, PRIM, 40},
            {1, TEXT, 0}};
        for (int[] maker : makers) {
            CellEngine s = new CellEngine();
            s.constant();
            add(s, java.util.Arrays.copyOfRange(maker, 1, maker.length));
            s.code(STOP);
            s.limits(maker[0], 100, 0);
            due("maker " + maker[maker.length - 2] + " has room", run(s, 0, 0), STOPPED);
            s.limits(maker[0] - 1, 100, 0);
            due("maker " + maker[maker.length - 2] + " has none", run(s, 0, 0), NO_ROOM);
        }
        oldAndNew();
    }

    /** Much is reached, and an old reference leads to something new again and again, which must not be lost. */
    private static void oldAndNew() {
        CellEngine x = with(INT, 0, SETGLOBAL, 1, TICK, GLOBAL, 1, REF, SETGLOBAL, 1, JUMP, 4);
        due("much", run(x, 0, 20000), NO_FUEL);
        x.cut(0);
        add(x, INT, 0, REF, SETGLOBAL, 2);
        run(x, 0, 0);
        due("reached", x.reached(), 40002);
        x.cut(0);
        add(x, INT, 0, SETGLOBAL, 3);
        int loop = x.count(0);
        add(x, TICK, GLOBAL, 2, GLOBAL, 3, INT, 1, PRIM, 0, DUP, SETGLOBAL, 3, RECORD, 1, PUT);
        add(x, INT, 0, REF, POP, INT, 0, REF, POP, INT, 0, REF, POP);
        add(x, GLOBAL, 2, GET, FIELD, 0, GLOBAL, 3, SAME, UNLESS, 999, JUMP, loop);
        x.limits(40010, 0, 0);
        for (int every = 1; every <= 10000; every *= 100) {
            x.collect(every);
            due("loop", run(x, 0, 20000), NO_FUEL);
            due("newest", x.look(2, 0x0101, 1), 20000);
            due("reached", x.reached(), 40000 + 2 + 2);
        }
    }

    private static void roomOfStacks() {
        where = "room of stacks";
        CellEngine x = with(INT, 1, JUMP, 0);
        due("65,536 values", run(x, 0, 0), NO_ROOM);
        due("values", x.count(7), 65536);
        due("place", x.count(10), 0);
        due("done", x.count(11), 2 * 65536);
        int[][] pushing = {{DUP}, {NAME, 1}, {GLOBAL, 1}, {CLOSURE, 1, 0}, {TEXT, 0}};
        for (int[] op : pushing) {
            CellEngine y = new CellEngine();
            y.constant();
            add(y, INT, 1);
            add(y, op);
            add(y, JUMP, 2);
            y.limits(131072, 0, 0);
            due("values by " + op[0], run(y, 0, 0), NO_ROOM);
            due("values by " + op[0], y.count(7), 65536);
        }
        CellEngine z = with(LOCALS, 16383, LOCAL, 5, JUMP, 2);
        due("locals count", run(z, 0, 0), NO_ROOM);
        due("values", z.count(7), 65536);
        // Frames of 16,383 locals: the fifth one has no room for as many, but for 3 more.
        CellEngine w = with(CLOSURE, 7, 0, SETGLOBAL, 1, JUMP, 7, LOCALS, 16383, GLOBAL, 1, INT, 0, CALL);
        due("LOCALS", run(w, 0, 0), NO_ROOM);
        due("frames", w.count(6), 5);
        due("values", w.count(7), 4 * 16383 + 1);
        due("place", w.count(10), 7);
        for (int n = 4; n <= 5; n++) {
            CellEngine y = new CellEngine();
            for (int frame = 1; frame <= 4; frame++) {
                add(y, LOCALS, 16383, CLOSURE, 8 * frame, 0, INT, 0, CALL);
            }
            add(y, LOCALS, n, POP);
            due("LOCALS " + n, run(y, 0, 0), n == 4 ? FAULT : NO_ROOM);
            due("values", y.count(7), n == 4 ? 65536 : 65533);
            due("place", y.count(10), n == 4 ? 34 : 32);
        }
        fullStack();
        CellEngine v = with(CLOSURE, 7, 0, SETGLOBAL, 1, JUMP, 7, GLOBAL, 1, INT, 0, CALL);
        due("8,192 frames", run(v, 0, 0), NO_ROOM);
        due("frames", v.count(6), 8192);
        due("values", v.count(7), 8191 + 2);
        due("place", v.count(10), 11);
        CellEngine u = with(HANDLE, 0, JUMP, 0);
        due("1,024 handlers", run(u, 0, 0), NO_ROOM);
        due("handlers", u.count(8), 1024);
        due("place", u.count(10), 0);
        CellEngine t = with(HANDLE, 8, HANDLE, 8, NAME, 1, RAISE, 0, HANDLE, 8, JUMP, 8);
        due("handlers again", run(t, 0, 0), NO_ROOM);
        due("handlers", t.count(8), 1024);
    }

    /** A full stack still takes what does not make it higher. */
    private static void fullStack() {
        int[][] last = {{PRIM, 0}, {SWAP}, {RECORD, 2}, {REF}, {POP}, {STORE, 0}, {CLOSURE, 1, 1}, {PRIM, 38}, {TICK}};
        for (int[] op : last) {
            CellEngine x = with(LOCALS, 1, INT, 65533, STORE, 0);
            add(x, LOCAL, 0, UNLESS, 22, LOCAL, 0, LOCAL, 0, INT, 1, PRIM, 1, STORE, 0, JUMP, 6, INT, 1, INT, 1);
            due("full", run(x, 0, 0), FAULT);
            due("full", x.count(7), 65536);
            add(x, op);
            add(x, DEPTH, 1, STOP);
            due("full, then " + op[0], run(x, 0, 5), STOPPED);
            due("behind " + op[0], x.count(5), 1);
        }
    }
}
