import java.util.ArrayDeque;
import java.util.ArrayList;
import java.util.Collections;
import java.util.IdentityHashMap;
import java.util.List;
import java.util.Set;

/**
 * The document once more, written as plainly as it goes and without a thought of speed: Java objects for values,
 * and a walk over all that is reached whenever something is made. The fuzz test holds CellEngine against it.
 */
final class Model {
    static final int NONE = -1;

    static final class Name {
        final int number;
        Name(int number) { this.number = number; }
    }

    /** kind as look() tells it; number is a tag, a place; parts are the values; text the bytes; name a packet's. */
    static final class Obj {
        final int kind;
        int number;
        List<Object> parts = new ArrayList<>();
        byte[] text;
        Name name;
        Obj(int kind) { this.kind = kind; }
        int cells() {
            return kind == 6 ? 1 + (text.length + 3) / 4 : kind == 7 ? 2 : 1 + parts.size();
        }
    }

    static final class Frame {
        Obj closure;
        List<Object> locals = new ArrayList<>();
        List<Object> stack = new ArrayList<>();
        int back;
    }

    static final class Handler {
        Frame frame;
        int place;
        int height;
        int depth;
    }

    static final class Ended extends RuntimeException {
        final int how;
        Ended(int how) { super(null, null, false, false); this.how = how; }
    }

    final List<Integer> code = new ArrayList<>();
    final List<byte[]> constants = new ArrayList<>();
    Object[] globals = zeros();
    Object[] saved = zeros();
    int savedCells;
    Object result = 0;
    List<Frame> frames = new ArrayList<>();
    List<Handler> handlers = new ArrayList<>();
    List<Integer> output = new ArrayList<>();
    int status = NONE;
    int place, fuel, ticks, depth, done;
    long made;
    int reachedLimit = 65536, madeLimit = 1000000, depthLimit = 2000;

    static Object[] zeros() {
        Object[] row = new Object[2048];
        java.util.Arrays.fill(row, 0);
        return row;
    }

    boolean start(int newPlace, int newFuel) {
        if (newPlace < 0 || newFuel < 0 || newFuel > 1000000) return false;
        frames.clear();
        frames.add(new Frame());
        handlers.clear();
        output.clear();
        place = newPlace; fuel = newFuel; ticks = 0; depth = 0; done = 0; made = 0;
        result = 0;
        status = 5;
        return true;
    }

    int step(int n) {
        if (n < 0 || n > 100000 || status == NONE) return NONE;
        for (int i = 0; i < n && status == 5; i++) {
            try {
                one();
            } catch (Ended e) {
                status = e.how;
            }
        }
        return status;
    }

    void forget() {
        status = NONE;
        frames.clear();
        handlers.clear();
    }

    int save() {
        forget();
        IdentityHashMap<Object, Object> copies = new IdentityHashMap<>();
        saved = copyAll(globals, copies);
        savedCells = cellsFrom(java.util.Arrays.asList(globals));
        return savedCells;
    }

    int restore() {
        forget();
        result = 0;
        globals = copyAll(saved, new IdentityHashMap<>());
        return savedCells;
    }

    static Object[] copyAll(Object[] row, IdentityHashMap<Object, Object> copies) {
        ArrayDeque<Obj> open = new ArrayDeque<>();
        Object[] fresh = new Object[row.length];
        for (int i = 0; i < row.length; i++) fresh[i] = copyOf(row[i], copies, open);
        while (!open.isEmpty()) {
            Obj old = open.pop();
            Obj copy = (Obj) copies.get(old);
            for (Object part : old.parts) copy.parts.add(copyOf(part, copies, open));
        }
        return fresh;
    }

    static Object copyOf(Object v, IdentityHashMap<Object, Object> copies, ArrayDeque<Obj> open) {
        if (!(v instanceof Obj)) return v;
        Obj old = (Obj) v;
        if (!copies.containsKey(old)) {
            Obj copy = new Obj(old.kind);
            copy.number = old.number;
            copy.text = old.text;
            copy.name = old.name;
            copies.put(old, copy);
            open.push(old);
        }
        return copies.get(old);
    }

    static int cellsFrom(List<Object> roots) {
        Set<Object> seen = Collections.newSetFromMap(new IdentityHashMap<>());
        ArrayDeque<Obj> open = new ArrayDeque<>();
        int cells = 0;
        for (Object r : roots) if (r instanceof Obj && seen.add(r)) open.push((Obj) r);
        while (!open.isEmpty()) {
            Obj o = open.pop();
            cells += o.cells();
            for (Object p : o.parts) if (p instanceof Obj && seen.add(p)) open.push((Obj) p);
        }
        return cells;
    }

    int reached() {
        List<Object> roots = new ArrayList<>(java.util.Arrays.asList(globals));
        roots.add(result);
        return cellsFrom(roots);
    }

    /** An instruction asks before it changes anything, so what it takes still stands on the stack here. */
    void room(int cells) {
        List<Object> roots = new ArrayList<>(java.util.Arrays.asList(globals));
        for (Frame f : frames) {
            roots.addAll(f.locals);
            roots.addAll(f.stack);
            roots.add(f.closure);
        }
        if (cellsFrom(roots) + cells > reachedLimit) throw new Ended(3);
    }

    void count(int cells) {
        if (made + cells > madeLimit) throw new Ended(3);
    }

    static void must(boolean holds) {
        if (!holds) throw new Ended(4);
    }

    int values() {
        int n = 0;
        for (Frame f : frames) n += f.locals.size() + f.stack.size();
        return n;
    }

    Frame top() { return frames.get(frames.size() - 1); }

    Object at(int below) {
        List<Object> s = top().stack;
        must(s.size() > below);
        return s.get(s.size() - 1 - below);
    }

    Obj at(int below, int kind) {
        Object v = at(below);
        must(kindOf(v) == kind);
        return (Obj) v;
    }

    int scalarAt(int below) {
        Object v = at(below);
        must(v instanceof Integer);
        return (Integer) v;
    }

    void take(int n) {
        List<Object> s = top().stack;
        for (int i = 0; i < n; i++) s.remove(s.size() - 1);
    }

    void give(int taken, Object v) {
        if (values() - taken + 1 > 65536) throw new Ended(3);
        take(taken);
        top().stack.add(v);
    }

    static int kindOf(Object v) {
        return v instanceof Integer ? 0 : v instanceof Name ? 1 : v instanceof Obj ? ((Obj) v).kind : -1;
    }

    int word(int at) {
        must(at >= 0 && at < code.size());
        return code.get(at);
    }

    int next;

    void one() {
        int op = word(place);
        must(op >= 0 && op <= 39);
        int operands = op == 15 ? 2 : op == 22 ? 1
            : " 1 2 3 4 5 6 7 10 11 12 16 20 21 26 29 34 36 37 38 ".contains(" " + op + " ") ? 1 : 0;
        int a = operands > 0 ? word(place + 1) : 0;
        int b = operands > 1 ? word(place + 2) : 0;
        if (op == 22) {
            must(a >= 0 && a <= 255);
            operands = a + 2;
            word(place + operands);
        }
        next = place + 1 + operands;
        boolean ends = false;
        switch (op) {
            case 0: result0(at(0)); take(1); ends = true; status = 0; break;
            case 1: give(0, a); break;
            case 2: must(a >= 0 && a < constants.size()); give(0, newText(constants.get(a), false)); break;
            case 3: must(a >= 0 && a < top().locals.size()); give(0, top().locals.get(a)); break;
            case 4: must(a >= 0 && a < top().locals.size()); top().locals.set(a, at(0)); take(1); break;
            case 5: must(top().closure != null && a >= 0 && a < top().closure.parts.size());
                give(0, top().closure.parts.get(a)); break;
            case 6: must(a >= 0 && a < 2048); give(0, globals[a]); break;
            case 7: must(a >= 0 && a < 2048); globals[a] = at(0); take(1); break;
            case 8: at(0); take(1); break;
            case 9: give(0, at(0)); break;
            case 10: must(a >= 1 && a <= 255); give(a, newOf(2, 0, a)); break;
            case 11: must(a >= 0 && a < at(0, 2).parts.size()); give(1, at(0, 2).parts.get(a)); break;
            case 12: give(1, newOf(3, a, 1)); break;
            case 13: must(kindOf(at(0)) == 3 || kindOf(at(0)) == 7); give(1, ((Obj) at(0)).parts.get(0)); break;
            case 14: must(kindOf(at(0)) == 3 || kindOf(at(0)) == 0);
                if (kindOf(at(0)) == 3) give(1, ((Obj) at(0)).number); break;
            case 15: must(b >= 0 && b <= 4095); give(b, newOf(4, a, b)); break;
            case 16: at(0); must(a >= 0 && a < at(1, 4).parts.size()); at(1, 4).parts.set(a, at(0)); take(1); break;
            case 17: call(); break;
            case 18: { Object v = at(0); Obj f = at(1, 4); must(!handled());
                Frame t = top(); t.closure = f; t.locals.clear(); t.locals.add(v); t.stack.clear(); next = f.number; break; }
            case 19: { Object v = at(0); must(frames.size() > 1 && !handled());
                next = top().back; frames.remove(frames.size() - 1); top().stack.add(v); break; }
            case 20: next = a; break;
            case 21: { int x = scalarAt(0); take(1); if (x == 0) next = a; break; }
            case 22: { int x = scalarAt(0); take(1); next = code.get(place + 2 + (x >= 0 && x < a ? x : a)); break; }
            case 23: give(1, newOf(5, 0, 1)); break;
            case 24: give(1, at(0, 5).parts.get(0)); break;
            case 25: { Object v = at(0); at(1, 5).parts.set(0, v); take(2); break; }
            case 26: { if (handlers.size() >= 1024) throw new Ended(3);
                Handler h = new Handler(); h.frame = top(); h.place = a; h.depth = depth; h.height = top().stack.size();
                handlers.add(h); break; }
            case 27: must(handled()); handlers.remove(handlers.size() - 1); break;
            case 28: must(kindOf(at(0)) == 1 || kindOf(at(0)) == 7); ends = raise(at(0), 1); break;
            case 29: must(a >= 0 && a <= 65535); give(0, new Name(a)); break;
            case 30: { Object v = at(0); must(at(1) instanceof Name); room(2);
                Obj p = new Obj(7); p.name = (Name) at(1); p.parts.add(v); give(2, p); break; }
            case 31: must(kindOf(at(0)) == 1 || kindOf(at(0)) == 7);
                if (kindOf(at(0)) == 7) give(1, ((Obj) at(0)).name); break;
            case 32: give(2, bit(isSame(at(1), at(0)))); break;
            case 33: give(2, bit(equal(at(1), at(0)))); break;
            case 34: ends = primitive(a); break;
            case 35: if (fuel == 0) throw new Ended(2); fuel--; ticks++; break;
            case 36: must(a >= 0); count(a); made += a; break;
            case 37: locals(a); break;
            case 38: must((long) depth + a >= 0); if ((long) depth + a > depthLimit) throw new Ended(3); depth += a; break;
            default: { Object w = at(0); Object v = at(1); take(2); top().stack.add(w); top().stack.add(v); break; }
        }
        done++;
        place = next;
        if (ends && status == 5) throw new IllegalStateException();
    }

    void result0(Object v) { result = v; }

    static int bit(boolean b) { return b ? 1 : 0; }

    Obj newOf(int kind, int number, int n) {
        if (n > 0) at(n - 1);
        room(n + 1);
        Obj o = new Obj(kind);
        o.number = number;
        for (int i = n - 1; i >= 0; i--) o.parts.add(at(i));
        return o;
    }

    Obj newText(byte[] bytes, boolean counted) {
        Obj o = new Obj(6);
        o.text = bytes;
        if (counted) count(o.cells());
        room(o.cells());
        if (counted) made += o.cells();
        return o;
    }

    void call() {
        Object v = at(0);
        Obj f = at(1, 4);
        if (frames.size() >= 8192) throw new Ended(3);
        take(2);
        Frame t = new Frame();
        t.closure = f;
        t.locals.add(v);
        t.back = next;
        frames.add(t);
        next = f.number;
    }

    void locals(int n) {
        must(n >= 0 && n <= 16383);
        Frame t = top();
        if (values() - t.stack.size() - t.locals.size() + n > 65536) throw new Ended(3);
        t.stack.clear();
        while (t.locals.size() > n) t.locals.remove(t.locals.size() - 1);
        while (t.locals.size() < n) t.locals.add(0);
    }

    boolean handled() {
        return !handlers.isEmpty() && handlers.get(handlers.size() - 1).frame == top();
    }

    boolean raise(Object p, int taken) {
        if (handlers.isEmpty()) {
            take(taken);
            result = p;
            status = 1;
            return true;
        }
        Handler h = handlers.get(handlers.size() - 1);
        int left = h.frame.stack.size() - (h.frame == top() ? taken : 0);
        must(left >= h.height);
        handlers.remove(handlers.size() - 1);
        while (top() != h.frame) frames.remove(frames.size() - 1);
        while (top().stack.size() > h.height) take(1);
        top().stack.add(p);
        depth = h.depth;
        next = h.place;
        return false;
    }

    static boolean isSame(Object v, Object w) {
        return v instanceof Integer && w instanceof Integer ? v.equals(w) : v == w;
    }

    static boolean equal(Object v, Object w) {
        if (isSame(v, w)) return true;
        int kind = kindOf(v);
        if (kind != kindOf(w) || kind < 2) return false;
        Obj a = (Obj) v;
        Obj b = (Obj) w;
        if (kind == 6) return java.util.Arrays.equals(a.text, b.text);
        if (kind != 2 && kind != 3 || a.number != b.number || a.parts.size() != b.parts.size()) return false;
        for (int i = 0; i < a.parts.size(); i++) if (!equal(a.parts.get(i), b.parts.get(i))) return false;
        return true;
    }

    boolean raiseGlobal(int g, int taken) {
        must(globals[g] instanceof Name);
        return raise(globals[g], taken);
    }

    boolean primitive(int p) {
        must(p >= 0 && p <= 41);
        if (p <= 26) return number(p);
        switch (p) {
            case 27: { byte[] w = at(0, 6).text; byte[] v = at(1, 6).text;
                if (v.length + w.length > 65535) return raiseGlobal(5, 2);
                byte[] all = java.util.Arrays.copyOf(v, v.length + w.length);
                System.arraycopy(w, 0, all, v.length, w.length);
                give(2, newText(all, true)); return false; }
            case 28: give(1, at(0, 6).text.length); return false;
            case 29: { int x = scalarAt(0); must(x >= 0 && x <= 255); give(1, newText(new byte[] {(byte) x}, true)); return false; }
            case 30: { int n = scalarAt(0); int i = scalarAt(1); byte[] s = at(2, 6).text;
                if (i < 0 || n < 0 || (long) i + n > s.length) return raiseGlobal(4, 3);
                give(3, newText(java.util.Arrays.copyOfRange(s, i, i + n), true)); return false; }
            case 31: { int i = scalarAt(0); byte[] s = at(1, 6).text;
                if (i < 0 || i >= s.length) return raiseGlobal(4, 2);
                give(2, s[i] & 255); return false; }
            case 32: case 33: case 34: case 35: case 36: {
                byte[] w = at(0, 6).text; byte[] v = at(1, 6).text;
                int c = Integer.signum(java.util.Arrays.compareUnsigned(v, w));
                give(2, p == 32 ? c : bit(p == 33 ? c < 0 : p == 34 ? c > 0 : p == 35 ? c <= 0 : c >= 0)); return false; }
            case 37: for (byte x : at(0, 6).text) if (output.size() < 65536) output.add(x & 255);
                give(1, 0); return false;
            case 38: give(1, newText(Integer.toString(scalarAt(0)).replace('-', '~')
                .getBytes(java.nio.charset.StandardCharsets.ISO_8859_1), true)); return false;
            case 39: { int x = scalarAt(0); return x < 0 || x > 255 ? raiseGlobal(6, 1) : false; }
            case 40: return implode();
            default: return explode();
        }
    }

    boolean implode() {
        java.io.ByteArrayOutputStream bytes = new java.io.ByteArrayOutputStream();
        Object list = at(0);
        while (!(list instanceof Integer)) {
            must(kindOf(list) == 3 && ((Obj) list).number == 1);
            Object pair = ((Obj) list).parts.get(0);
            must(kindOf(pair) == 2 && ((Obj) pair).parts.size() == 2);
            Object x = ((Obj) pair).parts.get(0);
            must(x instanceof Integer && (Integer) x >= 0 && (Integer) x <= 255);
            bytes.write((Integer) x);
            list = ((Obj) pair).parts.get(1);
        }
        must((Integer) list == 0);
        give(1, newText(bytes.toByteArray(), true));
        return false;
    }

    boolean explode() {
        byte[] s = at(0, 6).text;
        if (s.length > 0) {
            count(5 * s.length);
            room(5 * s.length);
            made += 5 * s.length;
        }
        Object list = 0;
        for (int i = s.length - 1; i >= 0; i--) {
            Obj pair = new Obj(2);
            pair.parts.add(s[i] & 255);
            pair.parts.add(list);
            Obj link = new Obj(3);
            link.number = 1;
            link.parts.add(pair);
            list = link;
        }
        give(1, list);
        return false;
    }

    boolean number(int p) {
        boolean single = p == 3 || p == 4 || p == 23 || p == 26;
        int taken = single ? 1 : 2;
        int w = scalarAt(0);
        int v = scalarAt(taken - 1);
        java.math.BigInteger two32 = java.math.BigInteger.ONE.shiftLeft(32);
        boolean natural = p >= 11;
        java.math.BigInteger x = java.math.BigInteger.valueOf(v);
        java.math.BigInteger y = java.math.BigInteger.valueOf(w);
        if (natural) {
            x = x.mod(two32);
            y = y.mod(two32);
        }
        if ((p == 5 || p == 6 || p == 14 || p == 15) && w == 0) return raiseGlobal(3, 2);
        java.math.BigInteger r;
        int c = x.compareTo(y);
        switch (p) {
            case 0: case 11: r = x.add(y); break;
            case 1: case 12: r = x.subtract(y); break;
            case 2: case 13: r = x.multiply(y); break;
            case 3: r = x.negate(); break;
            case 4: r = x.abs(); break;
            case 5: case 14: case 6: case 15: {
                java.math.BigInteger[] qr = x.divideAndRemainder(y);
                boolean down = qr[1].signum() != 0 && qr[1].signum() != y.signum();
                r = p == 5 || p == 14 ? (down ? qr[0].subtract(java.math.BigInteger.ONE) : qr[0]) : (down ? qr[1].add(y) : qr[1]);
                break; }
            case 7: case 16: r = java.math.BigInteger.valueOf(bit(c < 0)); break;
            case 8: case 17: r = java.math.BigInteger.valueOf(bit(c > 0)); break;
            case 9: case 18: r = java.math.BigInteger.valueOf(bit(c <= 0)); break;
            case 10: case 19: r = java.math.BigInteger.valueOf(bit(c >= 0)); break;
            case 20: r = x.and(y); break;
            case 21: r = x.or(y); break;
            case 22: r = x.xor(y); break;
            case 23: r = x.not(); break;
            case 24: r = y.bitLength() > 6 ? java.math.BigInteger.ZERO : x.shiftLeft(y.intValue()); break;
            case 25: r = y.bitLength() > 6 ? java.math.BigInteger.ZERO : x.shiftRight(y.intValue()); break;
            default: r = x; break;
        }
        boolean mayOverflow = p <= 5 || p == 26;
        if (mayOverflow && r.bitLength() > 31) return raiseGlobal(2, taken);
        give(taken, r.intValue());
        return false;
    }

    static final Object NOWHERE = new Object();

    Object find(int i, long path) {
        if (i < -1 || i > 2047) return NOWHERE;
        Object v = i == -1 ? result : globals[i];
        for (int k = 0; k < 8; k++) {
            int part = (int) (path >>> 8 * k) & 255;
            if (part == 0) break;
            if (!(v instanceof Obj) || part > ((Obj) v).parts.size()) return NOWHERE;
            v = ((Obj) v).parts.get(part - 1);
        }
        return v;
    }

    int look(int i, long path, int what) {
        Object v = find(i, path);
        if (v == NOWHERE || what < 0 || what > 2) return NONE;
        if (what == 0) return kindOf(v);
        if (what == 2) return v instanceof Obj ? ((Obj) v).parts.size() : 0;
        if (v instanceof Integer) return (Integer) v;
        if (v instanceof Name) return ((Name) v).number;
        Obj o = (Obj) v;
        return o.kind == 6 ? o.text.length : o.kind == 7 ? o.name.number : o.number;
    }

    int byteOf(int i, long path, int k) {
        Object v = find(i, path);
        if (kindOf(v) != 6 || k < 0 || k >= ((Obj) v).text.length) return NONE;
        return ((Obj) v).text[k] & 255;
    }

    boolean same(int i, long path, int j, long other) {
        Object v = find(i, path);
        return v != NOWHERE && isSame(v, find(j, other));
    }

    int count(int what, boolean face) {
        switch (what) {
            case 0: return code.size();
            case 1: return constants.size();
            case 2: return fuel;
            case 3: return ticks;
            case 4: return (int) made;
            case 5: return depth;
            case 6: return frames.size();
            case 7: return values();
            case 8: return handlers.size();
            case 9: return output.size();
            case 10: return place;
            case 11: return done;
            default: return NONE;
        }
    }
}
