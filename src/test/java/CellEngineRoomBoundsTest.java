/**
 * ROOM, each bound on either side: cells reached, and by what; values on stacks and locals, frames, handlers. An
 * instruction by which a run ends for want of room does nothing.
 */
public final class CellEngineRoomBoundsTest extends Checks {
    public static void main(String[] args) {
        cellsOfObjects();
        reachedByRoots();
        reachedByObjects();
        reachedNoMore();
        takenIsReached();
        sharedCountsOnce();
        circles();
        resultAndSavedDoNotCount();
        noObjectNoRoom();
        largestLimit();
        lowerLimit();
        valuesByOne();
        valuesAsBefore();
        valuesByLocals();
        valuesOfAllFrames();
        frames();
        framesAgain();
        handlers();
        handlersAgain();
        faultBeforeRoom();
        resultOfTheEnd();
        end();
    }

    private static CellEngine withText(String bytes, int... words) {
        CellEngine x = new CellEngine();
        text(x, bytes);
        add(x, words);
        return x;
    }

    /** The code runs to its STOP with so many cells; with one less the last object at this place has no room. */
    private static void dueCells(String what, int cells, int place, String bytes, int... words) {
        CellEngine x = withText(bytes, words);
        x.limits(cells, MAX, MAX);
        due(what + " with " + cells + " cells", run(x, 0, 0), STOPPED);
        CellEngine y = withText(bytes, words);
        y.limits(cells - 1, MAX, MAX);
        dueNothing(what + " with one less", upTo(place, 0, y), NO_ROOM);
        for (int every : new int[] {1, 3}) {
            CellEngine z = withText(bytes, words);
            z.collect(every);
            z.limits(cells, MAX, MAX);
            due(what + " with " + cells + " cells, gone through every " + every, run(z, 0, 0), STOPPED);
        }
    }

    private static void cellsOfObjects() {
        where = "cells: a record of n values n + 1, a constructed one, a reference, a packet 2, a closure 1 and the captured ones";
        dueCells("RECORD 1", 2, 2, "", INT, 1, RECORD, 1, STOP);
        dueCells("RECORD 2", 3, 4, "", INT, 1, INT, 2, RECORD, 2, STOP);
        dueCells("BUILD", 2, 2, "", INT, 1, BUILD, 0, STOP);
        dueCells("REF", 2, 2, "", INT, 1, REF, STOP);
        dueCells("PACKET", 2, 4, "", NAME, 1, INT, 1, PACKET, STOP);
        dueCells("CLOSURE 0", 1, 0, "", CLOSURE, 0, 0, STOP);
        dueCells("CLOSURE 1", 2, 2, "", INT, 1, CLOSURE, 0, 1, STOP);
        dueCells("CLOSURE 2", 3, 4, "", INT, 1, INT, 2, CLOSURE, 0, 2, STOP);
        where = "cells: a string 1 and a quarter of its bytes, rounded up";
        for (int n = 0; n <= 13; n++) {
            String bytes = "abcdefghijklm".substring(0, n);
            dueCells("TEXT of " + n, 1 + (n + 3) / 4, 0, bytes, TEXT, 0, STOP);
        }
        where = "cells of the widest ones";
        for (int less = 0; less <= 1; less++) {
            dueWide(255, 256 - less, less == 0 ? STOPPED : NO_ROOM, RECORD, 255, STOP);
            dueWide(4095, 4096 - less, less == 0 ? STOPPED : NO_ROOM, CLOSURE, 0, 4095, STOP);
            CellEngine x = longest();
            // Two strings of 32,768 and 32,767 bytes are taken, and 65,535 bytes have 16,385 cells.
            x.limits(8193 + 8193 + 16385 - less, MAX, 0);
            due("27", run(x, 0, 0), less == 0 ? STOPPED : NO_ROOM);
        }
    }

    private static void dueWide(int n, int cells, int status, int... last) {
        CellEngine x = wide(n, INT, 0);
        x.cut(22);
        add(x, last);
        x.limits(cells, 0, 0);
        due("of " + n + " with " + cells + " cells", run(x, 0, 0), status);
        due("place", x.count(10), status == STOPPED ? x.count(0) : 22);
    }

    private static void reachedByRoots() {
        where = "reached by the globals";
        dueCells("global 0", 4, 7, "", INT, 1, REF, SETGLOBAL, 0, INT, 2, REF, STOP);
        dueCells("global 2047", 4, 7, "", INT, 1, REF, SETGLOBAL, 2047, INT, 2, REF, STOP);
        where = "reached by locals";
        dueCells("local of the first frame", 4, 9, "", LOCALS, 2, INT, 1, REF, STORE, 1, INT, 2, REF, STOP);
        dueCells("an argument", 5, 10, "", CLOSURE, 8, 0, INT, 1, REF, CALL, 0, INT, 2, REF, STOP);
        dueCells("a local below", 5, 15, "",
            LOCALS, 1, INT, 1, REF, STORE, 0, CLOSURE, 13, 0, INT, 1, CALL, INT, 2, REF, STOP);
        where = "reached by stacks";
        dueCells("the top frame's", 4, 5, "", INT, 1, REF, INT, 2, REF, STOP);
        dueCells("the one's below", 5, 11, "", INT, 1, REF, CLOSURE, 9, 0, INT, 1, CALL, INT, 2, REF, STOP);
        where = "reached by the frames' closures";
        dueCells("the top frame's", 4, 10, "", INT, 1, CLOSURE, 8, 1, INT, 1, CALL, INT, 2, REF, STOP);
        dueCells("the one's below", 6, 18, "",
            INT, 1, INT, 1, CLOSURE, 10, 2, INT, 1, CALL, CLOSURE, 16, 0, INT, 1, CALL, INT, 2, REF, STOP);
    }

    private static void reachedByObjects() {
        where = "reached by objects";
        dueCells("a record's values", 10, 12, "", INT, 1, REF, INT, 1, INT, 2, REF, RECORD, 3, INT, 3, REF, STOP);
        dueCells("what is constructed", 6, 7, "", INT, 1, REF, BUILD, 3, INT, 3, REF, STOP);
        dueCells("captured values", 7, 10, "", INT, 1, REF, INT, 1, CLOSURE, 0, 2, INT, 3, REF, STOP);
        dueCells("a reference's value", 6, 6, "", INT, 1, REF, REF, INT, 3, REF, STOP);
        dueCells("a packet's value", 6, 8, "", NAME, 1, INT, 1, REF, PACKET, INT, 3, REF, STOP);
        dueCells("a patched value", 6, 12, "", INT, 0, CLOSURE, 0, 1, INT, 1, REF, PATCH, 0, INT, 3, REF, STOP);
        dueCells("what was put", 6, 10, "", INT, 0, REF, DUP, INT, 1, REF, PUT, INT, 3, REF, INT, 4, STOP);
    }

    /** Cells that nothing leads to any more do not count: the second object needs no more room than the first. */
    private static void reachedNoMore() {
        where = "nothing leads to it any more";
        dueCells("POP", 3, 8, "", INT, 1, REF, POP, INT, 1, INT, 2, RECORD, 2, STOP);
        dueReused("POP", 2, INT, 1, REF, POP);
        dueReused("a global set anew", 2, INT, 1, REF, SETGLOBAL, 1, INT, 0, SETGLOBAL, 1);
        dueReused("a local stored anew", 2, LOCALS, 1, INT, 1, REF, STORE, 0, INT, 0, STORE, 0);
        dueReused("LOCALS of the stack", 2, INT, 1, REF, LOCALS, 1);
        dueReused("fewer LOCALS", 2, LOCALS, 2, INT, 1, REF, STORE, 1, LOCALS, 1, LOCALS, 2);
        dueReused("UNLESS, SWITCH and the like", 2, INT, 1, REF, INT, 2, SAME, UNLESS, 8, INT, 1);
        dueReused("ARGUMENT", 2, INT, 1, BUILD, 1, ARGUMENT);
        dueReused("FIELD", 2, INT, 1, RECORD, 1, FIELD, 0);
        dueReused("GET", 2, INT, 1, REF, GET);
        dueReused("TAG", 2, INT, 1, BUILD, 1, TAG);
        dueReused("NAMEOF", 2, NAME, 1, INT, 1, PACKET, NAMEOF);
        dueReused("EQUAL", 2, CLOSURE, 0, 0, CLOSURE, 0, 0, EQUAL);
        dueReused("a reference's value changed", 4, INT, 1, REF, REF, DUP, INT, 0, PUT);
        dueReused("a captured value changed", 4, INT, 1, REF, CLOSURE, 0, 1, INT, 0, PATCH, 0);
        dueReused("a frame that returned", 3, CLOSURE, 9, 0, INT, 1, REF, CALL, JUMP, 12, INT, 2, RETURN);
        dueReused("a raise", 2, HANDLE, 8, INT, 1, REF, NAME, 1, RAISE, TICK);
        dueReused("a raise through frames", 3, HANDLE, 12, CLOSURE, 9, 0, INT, 1, REF, CALL, NAME, 1, RAISE);
        dueReused("TAIL", 3, INT, 1, REF, CLOSURE, 9, 0, INT, 1, TAIL);
        where = "the output and constants have no cells";
        CellEngine x = withText("abcdefgh", TEXT, 0, PRIM, 37, POP, TEXT, 0, PRIM, 37, STOP);
        x.limits(3, 0, 0);
        due("printed", run(x, 0, 0), STOPPED);
    }

    /**
     * With the most cells that the code before has at once, a reference of 2 cells still has room behind it, as the
     * two cells of what went are free again; without them it would have none.
     */
    private static void dueReused(String what, int most, int... before) {
        CellEngine x = with(before);
        int place = before.length;
        add(x, INT, 9, REF, STOP);
        x.limits(most, 0, 0);
        x.start(0, 9);
        for (int turn = 0; turn < 100 && x.count(10) != place; turn++) {
            due(what + " goes on", x.step(1), ON);
        }
        due(what + " leaves the cells", x.step(9), STOPPED);
        due(what + " leaves the cells", x.look(NONE, 1, 1), 9);
    }

    private static void takenIsReached() {
        where = "what the instruction takes is reached until it is done";
        dueCells("RECORD", 6, 6, "", INT, 1, REF, INT, 1, REF, RECORD, 1, STOP);
        dueCells("RECORD of both", 7, 6, "", INT, 1, REF, INT, 1, REF, RECORD, 2, STOP);
        dueCells("BUILD", 4, 3, "", INT, 1, REF, BUILD, 1, STOP);
        dueCells("CLOSURE", 4, 3, "", INT, 1, REF, CLOSURE, 0, 1, STOP);
        dueCells("REF", 4, 3, "", INT, 1, REF, REF, STOP);
        dueCells("PACKET", 4, 5, "", NAME, 1, INT, 1, REF, PACKET, STOP);
        dueCells("27", 2 + 2 + 3, 4, "abcd", TEXT, 0, TEXT, 0, PRIM, 27, STOP);
        dueCells("27 of one string twice", 2 + 3, 3, "abcd", TEXT, 0, DUP, PRIM, 27, STOP);
        dueCells("30", 3 + 2, 6, "abcdefgh", TEXT, 0, INT, 4, INT, 4, PRIM, 30, STOP);
        dueCells("30 of none", 3 + 1, 6, "abcdefgh", TEXT, 0, INT, 4, INT, 0, PRIM, 30, STOP);
        dueCells("40", 5 + 2, 8, "", INT, 1, INT, 0, RECORD, 2, BUILD, 1, PRIM, 40, STOP);
        dueCells("41", 2 + 5, 2, "a", TEXT, 0, PRIM, 41, STOP);
        where = "the list of 41 counts as one";
        dueCells("41 of four bytes", 2 + 20, 2, "abcd", TEXT, 0, PRIM, 41, STOP);
        dueCells("41 of five bytes", 3 + 25, 2, "abcde", TEXT, 0, PRIM, 41, STOP);
    }

    private static void sharedCountsOnce() {
        where = "what is reached in two ways counts once";
        dueCells("on the stack", 4, 6, "", INT, 1, REF, DUP, INT, 1, REF, STOP);
        dueCells("in a record", 7, 8, "", INT, 1, REF, DUP, RECORD, 2, INT, 1, REF, STOP);
        dueCells("global and local", 4, 15, "",
            LOCALS, 1, INT, 1, REF, DUP, DUP, SETGLOBAL, 1, SETGLOBAL, 2, STORE, 0, INT, 1, REF, STOP);
        dueCells("closure and argument", 3, 8, "", CLOSURE, 6, 0, DUP, CALL, TICK, INT, 1, REF, STOP);
    }

    private static void circles() {
        where = "circles are reached from outside only";
        // A reference to itself: 2 cells, which are free when nothing else leads there.
        dueCells("held", 4, 8, "", INT, 1, REF, DUP, DUP, PUT, INT, 1, REF, STOP);
        dueReused("left", 2, INT, 1, REF, DUP, DUP, PUT, POP);
        dueReused("a closure that captures itself", 2, INT, 0, CLOSURE, 0, 1, DUP, PATCH, 0, POP);
    }

    private static void resultAndSavedDoNotCount() {
        where = "the last result and what is kept by save() do not count";
        CellEngine x = with(INT, 1, REF, STOP);
        x.limits(2, 0, 0);
        for (int turn = 0; turn < 3; turn++) {
            due("run", run(x, 0, 0), STOPPED);
            due("reached", x.reached(), 2);
        }
        CellEngine y = with(INT, 1, REF, SETGLOBAL, 1, INT, 0, STOP);
        y.limits(2, 0, 0);
        due("run", run(y, 0, 0), STOPPED);
        due("save", y.save(), 2);
        y.cut(0);
        add(y, INT, 0, SETGLOBAL, 1, INT, 5, REF, SETGLOBAL, 2, INT, 0, STOP);
        due("run", run(y, 0, 0), STOPPED);
        due("reached", y.reached(), 2);
        due("restore", y.restore(), 2);
        due("restored", y.look(1, 1, 1), 1);
        dueLook(y, 2, 0, 0, 0, 0);
        where = "save() and restore() need no room";
        y.limits(0, 0, 0);
        due("save", y.save(), 2);
        due("restore", y.restore(), 2);
        due("restored", y.look(1, 1, 1), 1);
    }

    private static void noObjectNoRoom() {
        where = "what is no new object needs no cells";
        int[][] codes = {{INT, 1}, {NAME, 1}, {LOCALS, 9}, {GLOBAL, 1}, {HANDLE, 0}, {MAKE, 0}, {DEPTH, 0}, {INT, 1, SETGLOBAL, 1},
            {INT, 1, DUP}, {INT, 1, INT, 2, SWAP}, {INT, 1, INT, 2, EQUAL}, {INT, 1, INT, 2, PRIM, 0}};
        for (int[] code : codes) {
            CellEngine x = with(code);
            add(x, INT, 0, STOP);
            x.limits(0, 0, 0);
            due("instruction " + code[0], run(x, 0, 0), STOPPED);
        }
        CellEngine y = withText("a", INT, 1, REF, DUP, INT, 2, PUT, GET, CLOSURE, 0, 0, INT, 1, CALL);
        upTo(3, 0, y);
        y.limits(0, 0, 0);
        due("DUP, INT, PUT, GET", y.step(4), ON);
        dueNothing("CLOSURE", y, NO_ROOM);
        CellEngine z = with(CLOSURE, 6, 0, INT, 1, CALL, LOCAL, 0, STOP);
        upTo(5, 0, z);
        z.limits(0, 0, 0);
        dueDone("CALL", z);
        due("stop", z.step(2), STOPPED);
    }

    private static final int[] CHAIN = {INT, 0, SETGLOBAL, 1, TICK, GLOBAL, 1, REF, SETGLOBAL, 1, JUMP, 4};

    private static void largestLimit() {
        where = "131,072 cells, the largest limit";
        CellEngine x = with(CHAIN);
        x.limits(131072, 0, 0);
        due("131,070", run(x, 0, 65535), NO_FUEL);
        due("reached", x.reached(), 131070);
        x.cut(0);
        add(x, CLOSURE, 0, 0, CLOSURE, 0, 0, CLOSURE, 0, 0);
        upTo(3, 0, x);
        dueDone("cell 131,072", x);
        dueNothing("cell 131,073", x, NO_ROOM);
        due("save", x.save(), 131070);
        due("restore", x.restore(), 131070);
        upTo(3, 0, x);
        dueDone("cell 131,072 again", x);
        dueNothing("cell 131,073 again", x, NO_ROOM);
        where = "65,536 cells, the first limit, with cells that go";
        CellEngine y = with(CHAIN);
        due("65,532", run(y, 0, 32766), NO_FUEL);
        y.cut(0);
        add(y, TICK, INT, 1, REF, POP, INT, 1, REF, REF, POP, JUMP, 0);
        due("again and again", run(y, 0, 10000), NO_FUEL);
        due("reached", y.reached(), 65532);
    }

    private static void lowerLimit() {
        where = "a limit below what is reached";
        CellEngine x = with(INT, 1, REF, INT, 2, REF, CLOSURE, 0, 0, STOP);
        for (int limit = 3; limit <= 5; limit++) {
            x.limits(100, 0, 0);
            upTo(6, 0, x);
            x.limits(limit, 0, 0);
            if (limit < 5) {
                dueNothing("4 are reached, and one more of " + limit, x, NO_ROOM);
            } else {
                dueDone("4 are reached, and one more of 5", x);
            }
            x.save();
        }
    }

    /** Code of four frames below a fifth one with four locals: so many values more have room. */
    private static int[] filled(int left) {
        int[] code = {};
        for (int frame = 1; frame <= 4; frame++) {
            code = join(code, LOCALS, frame < 4 ? 16383 : 16383 - left, INT, 7, CLOSURE, 10 * frame, 1, INT, 0, CALL);
        }
        return join(code, LOCALS, 4);
    }

    private static CellEngine atFull(int left, int[] before, int[] words) {
        int[] code = join(filled(left), before);
        CellEngine x = withText("a", join(code, words));
        upTo(code.length, 9, x);
        return x;
    }

    private static void valuesByOne() {
        where = "65,536 locals and values on stacks: one value more";
        int[][] pushing = {{INT, 1}, {TEXT, 0}, {LOCAL, 0}, {FREE, 0}, {GLOBAL, 0}, {CLOSURE, 0, 0}, {NAME, 1}};
        for (int[] op : pushing) {
            CellEngine x = atFull(1, new int[] {}, op);
            due("values", x.count(7), 65535);
            dueDone("instruction " + op[0], x);
            due("values", x.count(7), 65536);
            CellEngine y = atFull(0, new int[] {}, op);
            due("values", y.count(7), 65536);
            dueNothing("instruction " + op[0], y, NO_ROOM);
        }
        CellEngine x = atFull(2, new int[] {INT, 1}, new int[] {DUP});
        dueDone("DUP", x);
        due("values", x.count(7), 65536);
        dueNothing("DUP", atFull(1, new int[] {INT, 1}, new int[] {DUP}), NO_ROOM);
    }

    private static void valuesAsBefore() {
        where = "65,536 locals and values on stacks: no more than before";
        int[][][] rows = {{{}, {TICK}}, {{}, {MAKE, 1}}, {{}, {DEPTH, 1}}, {{}, {JUMP, 0}}, {{}, {HANDLE, 0}}, {{}, {LOCALS, 4}},
            {{INT, 1}, {POP}}, {{INT, 1}, {STORE, 0}}, {{INT, 1}, {SETGLOBAL, 0}}, {{INT, 1}, {RECORD, 1}}, {{INT, 1}, {BUILD, 1}},
            {{INT, 1}, {TAG}}, {{INT, 1}, {REF}}, {{INT, 1}, {CLOSURE, 0, 1}}, {{INT, 1}, {UNLESS, 0}}, {{INT, 1}, {SWITCH, 0, 0}},
            {{INT, 1}, {PRIM, 3}}, {{INT, 1}, {PRIM, 38}}, {{INT, 1}, {PRIM, 29}}, {{INT, 1}, {PRIM, 39}}, {{INT, 0}, {PRIM, 40}},
            {{INT, 1}, {RETURN}}, {{NAME, 1}, {NAMEOF}}, {{TEXT, 0}, {PRIM, 28}}, {{TEXT, 0}, {PRIM, 37}}, {{TEXT, 0}, {PRIM, 41}}};
        for (int[][] row : rows) {
            CellEngine x = atFull(row[0].length / 2, row[0], row[1]);
            due("values", x.count(7), 65536);
            dueDone("instruction " + row[1][0], x);
        }
        int[][][] ofTwo = {{{INT, 1, INT, 2}, {SWAP}}, {{INT, 1, INT, 2}, {SAME}}, {{INT, 1, INT, 2}, {EQUAL}}, {{INT, 1, INT, 2}, {RECORD, 2}},
            {{INT, 1, INT, 2}, {PRIM, 0}}, {{NAME, 1, INT, 2}, {PACKET}}, {{CLOSURE, 0, 0, INT, 2}, {CALL}},
            {{CLOSURE, 0, 0, INT, 2}, {TAIL}}, {{TEXT, 0, TEXT, 0}, {PRIM, 27}}, {{TEXT, 0, INT, 0}, {PRIM, 31}}};
        for (int[][] row : ofTwo) {
            CellEngine x = atFull(2, row[0], row[1]);
            due("values", x.count(7), 65536);
            dueDone("instruction " + row[1][0], x);
        }
        // What is raised takes the place of what was taken.
        CellEngine y = atFull(1, new int[] {HANDLE, 0, NAME, 1}, new int[] {RAISE});
        due("values", y.count(7), 65536);
        dueDone("RAISE", y);
        due("values", y.count(7), 65536);
        CellEngine z = atFull(1, new int[] {HANDLE, 0, UNHANDLE, INT, 1}, new int[] {POP});
        dueDone("POP", z);
        due("values", z.count(7), 65535);
    }

    private static void valuesByLocals() {
        where = "65,536 locals and values on stacks: LOCALS";
        // The fifth frame has 4 locals; its stack goes with LOCALS.
        for (int left = 0; left <= 2; left++) {
            CellEngine x = atFull(left, new int[] {}, new int[] {LOCALS, 4 + left});
            dueDone("LOCALS " + (4 + left), x);
            due("values", x.count(7), 65536);
            dueNothing("LOCALS " + (5 + left), atFull(left, new int[] {}, new int[] {LOCALS, 5 + left}), NO_ROOM);
        }
        CellEngine y = atFull(2, new int[] {INT, 1, INT, 2}, new int[] {LOCALS, 6});
        due("values", y.count(7), 65536);
        dueDone("the stack's place becomes locals", y);
        due("values", y.count(7), 65536);
        dueNothing("but no more", atFull(2, new int[] {INT, 1, INT, 2}, new int[] {LOCALS, 7}), NO_ROOM);
        dueNothing("as many as there can be", atFull(2, new int[] {}, new int[] {LOCALS, 16383}), NO_ROOM);
        CellEngine z = atFull(16379, new int[] {}, new int[] {LOCALS, 16383});
        dueDone("LOCALS 16383", z);
        due("values", z.count(7), 65536);
        dueNothing("LOCALS 16383", atFull(16378, new int[] {}, new int[] {LOCALS, 16383}), NO_ROOM);
    }

    private static void valuesOfAllFrames() {
        where = "65,536 locals and values on stacks, of all frames";
        CellEngine x = with(INT, 1, JUMP, 0);
        due("one stack alone", run(x, 0, 0), NO_ROOM);
        due("values", x.count(7), 65536);
        due("place", x.count(10), 0);
        due("done", x.count(11), 131072);
        CellEngine y = with(CLOSURE, 7, 0, SETGLOBAL, 1, JUMP, 7);
        // Each frame leaves 20 values on its stack.
        for (int k = 0; k < 20; k++) {
            add(y, INT, k);
        }
        add(y, GLOBAL, 1, INT, 0, CALL);
        due("many stacks", run(y, 0, 0), NO_ROOM);
        due("values", y.count(7), 65536);
        // 1 and 20 values a frame, the first one 20.
        due("frames", y.count(6), 65536 / 21 + 1);
    }

    /** f at 13 calls itself as often as local 0 tells, then does the words at 30. */
    private static CellEngine recursion(int... atTheEnd) {
        CellEngine x = with(CLOSURE, 13, 0, SETGLOBAL, 1, GLOBAL, 1, GLOBAL, 2, CALL, TICK, STOP, 0);
        add(x, LOCAL, 0, UNLESS, 30, GLOBAL, 1, LOCAL, 0, INT, 1, PRIM, 1, CALL, TICK, INT, 1, RETURN);
        add(x, atTheEnd);
        return x;
    }

    /** A run of the recursion down to so many frames. */
    private static int runTo(CellEngine x, int frames) {
        int size = x.count(0);
        add(x, INT, frames - 2, SETGLOBAL, 2, INT, 0, STOP);
        due("set", run(x, size, 0), STOPPED);
        due("cut", x.cut(size), size);
        return run(x, 0, 1000000);
    }

    private static void frames() {
        where = "8,192 frames";
        CellEngine x = recursion(INT, 5, STOP);
        due("8,191", runTo(x, 8191), STOPPED);
        due("8,191", x.count(6), 8191);
        CellEngine y = recursion(INT, 5, STOP);
        due("8,192", runTo(y, 8192), STOPPED);
        due("8,192", y.count(6), 8192);
        due("result", y.look(NONE, 0, 1), 5);
        CellEngine z = recursion(INT, 5, STOP);
        due("8,193", runTo(z, 8193), NO_ROOM);
        due("8,193", z.count(6), 8192);
        due("at the CALL", z.count(10), 25);
        dueLook(z, NONE, 0, 0, 0, 0);
        int[] before = seen(z);
        due("again", z.step(9), NO_ROOM);
        dueUnchanged("again", z, before);
        // Each frame has local 0; the top one's closure and argument are there still.
        due("values", z.count(7), 8191 + 2);
    }

    private static void framesAgain() {
        where = "8,192 frames, some of which go and come again";
        CellEngine x = recursion(CLOSURE, 36, 0, INT, 3, TAIL, LOCAL, 0, RETURN);
        due("TAIL and RETURN", runTo(x, 8192), STOPPED);
        due("frames", x.count(6), 1);
        due("ticks", x.count(3), 8191);
        for (int frames = 8191; frames <= 8192; frames++) {
            CellEngine y = recursion(CLOSURE, 37, 0, INT, 3, CALL, STOP, LOCAL, 0, RETURN);
            due("CALL in frame " + frames, runTo(y, frames), frames == 8191 ? STOPPED : NO_ROOM);
            due("frames", y.count(6), frames == 8191 ? 8191 : 8192);
            due("place", y.count(10), frames == 8191 ? 37 : 35);
        }
    }

    private static void handlers() {
        where = "1,024 handlers";
        CellEngine x = with(HANDLE, 0, TICK, JUMP, 0);
        due("1,023", run(x, 0, 1022), NO_FUEL);
        due("1,023", x.count(8), 1023);
        due("1,024", run(x, 0, 1023), NO_FUEL);
        due("1,024", x.count(8), 1024);
        due("1,025", run(x, 0, 1024), NO_ROOM);
        due("1,025", x.count(8), 1024);
        due("place", x.count(10), 0);
        due("ticks", x.count(3), 1024);
        dueLook(x, NONE, 0, 0, 0, 0);
        int[] before = seen(x);
        due("again", x.step(9), NO_ROOM);
        dueUnchanged("again", x, before);
    }

    private static void handlersAgain() {
        where = "1,024 handlers, some of which go and come again";
        // 1,024 of them by a loop of 512 turns, then what is asked.
        int[] loop = {LOCALS, 1, LOCAL, 0, INT, 512, PRIM, 7, UNLESS, 26, LOCAL, 0, INT, 1, PRIM, 0, STORE, 0, HANDLE, 50, HANDLE, 40, JUMP, 2, 0, 0};
        int[][] lasts = {{UNHANDLE, HANDLE, 9, INT, 1, STOP}, {HANDLE, 9, INT, 1, STOP}, {UNHANDLE, HANDLE, 9, HANDLE, 9, INT, 1, STOP}};
        int[] ends = {STOPPED, NO_ROOM, NO_ROOM};
        for (int k = 0; k < lasts.length; k++) {
            CellEngine x = with(join(loop, lasts[k]));
            due("row " + k, run(x, 0, 0), ends[k]);
            due("row " + k, x.count(8), 1024);
        }
        // A raise takes one away; there is room for one then.
        CellEngine y = with(join(loop, NAME, 1, RAISE));
        while (y.count(0) < 40) {
            y.code(0);
        }
        add(y, HANDLE, 9, HANDLE, 9);
        due("one more behind a raise", run(y, 0, 0), NO_ROOM);
        due("place", y.count(10), 42);
        due("handlers", y.count(8), 1024);
        // Handlers of frames that are on count, too.
        CellEngine z = with(CLOSURE, 7, 0, SETGLOBAL, 1, JUMP, 7, HANDLE, 0, HANDLE, 0, HANDLE, 0, GLOBAL, 1, INT, 0, CALL);
        due("three in a frame", run(z, 0, 0), NO_ROOM);
        due("handlers", z.count(8), 1024);
        due("frames", z.count(6), 342);
        due("place", z.count(10), 9);
    }

    private static void faultBeforeRoom() {
        where = "an instruction that is faulty and lacks room ends with a fault";
        int[][][] rows = {{{}, {TEXT, 1}}, {{}, {LOCAL, 4}}, {{}, {FREE, 1}}, {{}, {GLOBAL, 2048}}, {{}, {NAME, 65536}}, {{}, {CLOSURE, 0, 4096}},
            {{}, {LOCALS, 16384}}, {{}, {DUP}}, {{}, {RECORD, 1}}};
        for (int[][] row : rows) {
            dueNothing("instruction " + row[1][0], atFull(0, row[0], row[1]), FAULT);
        }
        int[][] faulty = {{INT, 1, PACKET}, {INT, 256, PRIM, 29}, {INT, 1, PRIM, 40}, {INT, 1, PRIM, 41}};
        for (int[] code : faulty) {
            CellEngine x = with(code);
            x.limits(0, 0, 0);
            due("code " + code[code.length - 1], run(x, 0, 0), FAULT);
        }
    }

    private static void resultOfTheEnd() {
        where = "when a run ends other than by 0 or 28 its result is the scalar 0";
        int[][] ends = {{NO_FUEL, TICK}, {NO_ROOM, MAKE, 1000001}, {NO_ROOM, DEPTH, 2001}, {FAULT, GET}, {FAULT, 40}};
        for (int[] end : ends) {
            CellEngine x = with(INT, 5, REF, STOP);
            due("a result", run(x, 0, 0), STOPPED);
            dueLook(x, NONE, 0, 5, 0, 1);
            x.cut(0);
            add(x, INT, 7, INT, 8);
            add(x, java.util.Arrays.copyOfRange(end, 1, end.length));
            due("end", run(x, 0, 0), end[0]);
            dueLook(x, NONE, 0, 0, 0, 0);
            due("reached", x.reached(), 0);
        }
    }
}
