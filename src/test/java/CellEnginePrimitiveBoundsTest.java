/**
 * What primitives 0 to 41 answer or raise at the ends of their ranges, on either side; strings without bytes and the
 * longest ones; and what they make, against its limits.
 */
public final class CellEnginePrimitiveBoundsTest extends Checks {
    public static void main(String[] args) {
        beyondInts();
        divisions();
        comparisons();
        naturals();
        shifts();
        toInts();
        raisedGlobals();
        raisedGlobalOfLength();
        joined();
        lengths();
        singles();
        parts();
        bytes();
        orders();
        printed();
        digits();
        characters();
        imploded();
        noLists();
        exploded();
        countedAsMade();
        askedForRoom();
        end();
    }

    private static void beyondInts() {
        where = "0 .. 4 raise global 2 when the result is beyond ints";
        duePrimitive(0, MAX, 0, MAX);
        duePrimitive(0, MAX - 1, 1, MAX);
        dueRaises(0, 2, MAX, 1);
        dueRaises(0, 2, MAX, MAX);
        duePrimitive(0, MIN, 0, MIN);
        duePrimitive(0, MIN + 1, -1, MIN);
        dueRaises(0, 2, MIN, -1);
        dueRaises(0, 2, MIN, MIN);
        duePrimitive(0, MIN, MAX, -1);
        duePrimitive(1, MIN + 1, 1, MIN);
        dueRaises(1, 2, MIN, 1);
        dueRaises(1, 2, MIN, MAX);
        duePrimitive(1, MAX - 1, -1, MAX);
        dueRaises(1, 2, MAX, -1);
        dueRaises(1, 2, MAX, MIN);
        duePrimitive(1, -1, MIN, MAX);
        dueRaises(1, 2, 0, MIN);
        duePrimitive(1, MIN, MIN, 0);
        duePrimitive(2, 46341, 46340, 2147441940);
        dueRaises(2, 2, 46341, 46341);
        duePrimitive(2, 1 << 30, -2, MIN);
        dueRaises(2, 2, 1 << 30, 2);
        dueRaises(2, 2, (1 << 30) + 1, -2);
        duePrimitive(2, MIN, 1, MIN);
        dueRaises(2, 2, MIN, -1);
        dueRaises(2, 2, -1, MIN);
        dueRaises(2, 2, MIN, MIN);
        dueRaises(2, 2, MAX, MAX);
        // 2 to the 32 is 0 when it goes round.
        dueRaises(2, 2, 65536, 65536);
        duePrimitive(2, MAX, -1, -MAX);
        duePrimitive(2, MIN, 0, 0);
        duePrimitive(3, MAX, -MAX);
        duePrimitive(3, -MAX, MAX);
        duePrimitive(3, 0, 0);
        dueRaises(3, 2, MIN);
        duePrimitive(4, MAX, MAX);
        duePrimitive(4, -MAX, MAX);
        duePrimitive(4, 0, 0);
        duePrimitive(4, -1, 1);
        dueRaises(4, 2, MIN);
    }

    private static void divisions() {
        where = "5 v / w, 6 v modulo w, to the lesser whole number; global 3 when w is 0; global 2 by 5 of the least int and -1";
        int[][] rows = {{6, 3, 2, 0}, {7, 3, 2, 1}, {-7, 3, -3, 2}, {7, -3, -3, -2}, {-7, -3, 2, -1}, {-6, 3, -2, 0}, {6, -3, -2, 0},
            {1, MAX, 0, 1}, {-1, MAX, -1, MAX - 1}, {1, MIN, -1, MIN + 1}, {-1, MIN, 0, -1}, {MIN, MIN, 1, 0}, {MAX, MIN, -1, -1},
            {MIN, MAX, -2, MAX - 1}, {MIN, 1, MIN, 0}, {MAX, -1, -MAX, 0}, {MIN + 1, -1, MAX, 0}, {0, MIN, 0, 0}, {0, 1, 0, 0},
            {MIN, 2, MIN / 2, 0}, {MIN, -2, 1 << 30, 0}, {MAX, 1, MAX, 0}};
        for (int[] row : rows) {
            duePrimitive(5, row[0], row[1], row[2]);
            duePrimitive(6, row[0], row[1], row[3]);
        }
        dueRaises(5, 2, MIN, -1);
        duePrimitive(6, MIN, -1, 0);
        for (int v : new int[] {0, 1, -1, MIN, MAX}) {
            dueRaises(5, 3, v, 0);
            dueRaises(6, 3, v, 0);
            dueRaises(14, 3, v, 0);
            dueRaises(15, 3, v, 0);
        }
    }

    private static void comparisons() {
        where = "7 <, 8 >, 9 <=, 10 >= (1 or 0)";
        int[] rising = {MIN, MIN + 1, -1, 0, 1, MAX - 1, MAX};
        dueCompared(7, rising);
        where = "16 <, 17 >, 18 <=, 19 >= of numbers 0 .. 4294967295";
        int[] risingNaturals = {0, 1, MAX - 1, MAX, MIN, MIN + 1, -2, -1};
        dueCompared(16, risingNaturals);
    }

    private static void dueCompared(int p, int[] rising) {
        for (int i = 0; i < rising.length; i++) {
            for (int j = 0; j < rising.length; j++) {
                duePrimitive(p, rising[i], rising[j], i < j ? 1 : 0);
                duePrimitive(p + 1, rising[i], rising[j], i > j ? 1 : 0);
                duePrimitive(p + 2, rising[i], rising[j], i <= j ? 1 : 0);
                duePrimitive(p + 3, rising[i], rising[j], i >= j ? 1 : 0);
            }
        }
    }

    private static void naturals() {
        where = "11 +, 12 -, 13 * (what is left modulo 2 to the 32), 14 /, 15 modulo";
        duePrimitive(11, -1, 0, -1);
        duePrimitive(11, -1, 1, 0);
        duePrimitive(11, -1, -1, -2);
        duePrimitive(11, MAX, 1, MIN);
        duePrimitive(11, MIN, MIN, 0);
        duePrimitive(12, 0, 0, 0);
        duePrimitive(12, 0, 1, -1);
        duePrimitive(12, 0, -1, 1);
        duePrimitive(12, MIN, 1, MAX);
        duePrimitive(13, 65535, 65537, -1);
        duePrimitive(13, 65536, 65536, 0);
        duePrimitive(13, -1, -1, 1);
        duePrimitive(13, MIN, 2, 0);
        duePrimitive(13, MIN, 3, MIN);
        duePrimitive(13, -1, 2, -2);
        int[][] rows = {{-1, 1, -1, 0}, {-1, 2, MAX, 1}, {-1, -1, 1, 0}, {-2, -1, 0, -2}, {MIN, 2, 1 << 30, 0}, {MIN, MIN, 1, 0},
            {MAX, MIN, 0, MAX}, {-1, MIN, 1, MAX}, {MIN, -1, 0, MIN}, {0, -1, 0, 0}, {1, 1, 1, 0}, {-1, 10, 429496729, 5},
            {-1, 65536, 65535, 65535}};
        for (int[] row : rows) {
            duePrimitive(14, row[0], row[1], row[2]);
            duePrimitive(15, row[0], row[1], row[3]);
        }
        where = "20 and, 21 or, 22 exclusive or, by bits, 23 not v";
        int[] bits = {0, -1, MIN, MAX, 1, 0x55555555};
        for (int v : bits) {
            for (int w : bits) {
                duePrimitive(20, v, w, v & w);
                duePrimitive(21, v, w, v | w);
                duePrimitive(22, v, w, v ^ w);
            }
            duePrimitive(23, v, -1 - v);
        }
    }

    private static void shifts() {
        where = "24 v shifted left by w, 25 right (0 by 32 or more)";
        duePrimitive(24, -1, 0, -1);
        duePrimitive(24, -1, 1, -2);
        duePrimitive(24, -1, 31, MIN);
        duePrimitive(24, 1, 31, MIN);
        duePrimitive(24, 2, 31, 0);
        duePrimitive(25, -1, 0, -1);
        duePrimitive(25, -1, 1, MAX);
        duePrimitive(25, MIN, 31, 1);
        duePrimitive(25, MAX, 31, 0);
        duePrimitive(25, MIN, 30, 2);
        for (int w : new int[] {32, 33, 63, 64, 65, 256, MAX, MIN, MIN + 1, -1, -31, -32}) {
            duePrimitive(24, -1, w, 0);
            duePrimitive(25, -1, w, 0);
        }
    }

    private static void toInts() {
        where = "26 v (global 2 when it is 2147483648 or more)";
        duePrimitive(26, 0, 0);
        duePrimitive(26, MAX, MAX);
        dueRaises(26, 2, MIN);
        dueRaises(26, 2, MIN + 1);
        dueRaises(26, 2, -1);
    }

    private static void raisedGlobals() {
        where = "fault: what is to be raised by a primitive is no exception name";
        int[][] values = {{INT, 0}, {INT, 1, RECORD, 1}, {INT, 1, BUILD, 1}, {CLOSURE, 0, 0}, {INT, 1, REF}, {TEXT, 0},
            {NAME, 1, INT, 2, PACKET}};
        int[][] raisers = {{2, INT, MAX, INT, 1, PRIM, 0}, {3, INT, 1, INT, 0, PRIM, 5}, {4, TEXT, 0, INT, 3, PRIM, 31},
            {6, INT, 256, PRIM, 39}};
        for (int[] raiser : raisers) {
            int[] code = java.util.Arrays.copyOfRange(raiser, 1, raiser.length);
            for (int[] value : values) {
                CellEngine x = raiserOf(raiser[0], value, code);
                dueNothing("global " + raiser[0] + " of kind by " + value[0], upTo(x.count(0) - 2, 0, x), FAULT);
            }
            CellEngine y = raiserOf(raiser[0], new int[] {NAME, 1}, code);
            upTo(y.count(0) - 2, 0, y);
            due("an exception name", y.step(1), RAISED);
            due("an exception name", y.same(NONE, 0, raiser[0], 0), true);
            // The names of the other globals do not help.
            CellEngine z = withTexts("abc", "");
            add(z, INT, 0, SETGLOBAL, raiser[0]);
            add(z, code);
            dueNothing("global " + raiser[0] + " alone", upTo(z.count(0) - 2, 0, z), FAULT);
        }
    }

    private static void raisedGlobalOfLength() {
        where = "fault: what is to be raised by 27 is no exception name";
        int[][] values = {{INT, 0}, {TEXT, 0}, {NAME, 1, INT, 2, PACKET}};
        for (int[] value : values) {
            CellEngine x = halfway(value);
            add(x, SETGLOBAL, 5, GLOBAL, 20, GLOBAL, 20, PRIM, 27);
            dueNothing("global 5 by " + value[0], upTo(x.count(0) - 2, 0, x), FAULT);
        }
        CellEngine y = halfway(NAME, 1, SETGLOBAL, 5, GLOBAL, 20, GLOBAL, 20, PRIM, 27);
        due("an exception name", run(y, 0, 0), RAISED);
        due("an exception name", y.same(NONE, 0, 5, 0), true);
    }

    private static CellEngine raiserOf(int global, int[] value, int[] code) {
        CellEngine x = new CellEngine();
        text(x, "abc");
        add(x, value);
        add(x, SETGLOBAL, global);
        add(x, code);
        return x;
    }

    /** Goes on with global 20 a string of 32,768 bytes "1234567812345678..". */
    private static CellEngine halfway(int... words) {
        CellEngine x = withTexts("12345678", "", TEXT, 0);
        for (int k = 0; k < 12; k++) {
            add(x, DUP, PRIM, 27);
        }
        add(x, SETGLOBAL, 20);
        add(x, words);
        return x;
    }

    private static void joined() {
        where = "27 one behind the other (global 5 when longer than 65,535)";
        String[] texts = {"", "a", "abc", "abcd", "abcde"};
        for (String v : texts) {
            for (String w : texts) {
                int cells = 1 + (v.length() + w.length() + 3) / 4;
                dueText(v + " and " + w, v + w, cells, withTexts(v, w, TEXT, 0, TEXT, 1, PRIM, 27, STOP));
            }
        }
        CellEngine x = halfway(GLOBAL, 20, GLOBAL, 20, INT, 0, INT, 32767, PRIM, 30, PRIM, 27, STOP);
        due("65,535", run(x, 0, 0), STOPPED);
        due("65,535", x.look(NONE, 0, 1), 65535);
        due("byte 32,767", x.byteOf(NONE, 0, 32767), '8');
        due("byte 32,768", x.byteOf(NONE, 0, 32768), '1');
        due("byte 65,534", x.byteOf(NONE, 0, 65534), '7');
        dueNamedOnly("65,536", 5, halfway(GLOBAL, 20, GLOBAL, 20, PRIM, 27, STOP));
        CellEngine y = longest();
        y.cut(y.count(0) - 1);
        add(y, RAISES);
        int place = y.count(0);
        text(y, "");
        text(y, "x");
        add(y, DUP, TEXT, 1, PRIM, 27, DUP, PRIM, 28, SETGLOBAL, 10, TEXT, 1, SWAP, PRIM, 27, STOP);
        due("none more, on either side", run(y, 0, 0), STOPPED);
        due("65,535", y.look(NONE, 0, 1), 65535);
        due("65,535", y.look(10, 0, 1), 65535);
        y.cut(place);
        add(y, TEXT, 2, PRIM, 27, STOP);
        dueNamedOnly("one more", 5, y);
        y.cut(place);
        add(y, TEXT, 2, SWAP, PRIM, 27, STOP);
        dueNamedOnly("one more before it", 5, y);
        y.cut(place);
        add(y, DUP, PRIM, 27, STOP);
        dueNamedOnly("twice 65,535", 5, y);
    }

    private static void dueNamedOnly(String what, int global, CellEngine x) {
        due(what + " ends", run(x, 0, 0), RAISED);
        due(what, x.same(NONE, 0, global, 0), true);
        due(what, x.look(NONE, 0, 1), 100 + global);
    }

    private static void lengths() {
        where = "28 a string's length";
        String[] texts = {"", "a", "abc", "abcd", "abcde", "abcdefgh", "abcdefghi"};
        for (String v : texts) {
            dueNumber(v, v.length(), withTexts(v, "", TEXT, 0, PRIM, 28, STOP));
        }
        CellEngine x = longest();
        x.cut(x.count(0) - 1);
        add(x, PRIM, 28, STOP);
        due("run", run(x, 0, 0), STOPPED);
        due("the longest", x.look(NONE, 0, 1), 65535);
    }

    private static void singles() {
        where = "29 the string of one byte, a scalar 0 .. 255 (another one is a fault)";
        for (int b : new int[] {0, 1, 127, 128, 254, 255}) {
            dueText("byte " + b, String.valueOf((char) b), 2, withTexts("", "", INT, b, PRIM, 29, STOP));
        }
        for (int b : new int[] {-1, 256, -256, 65536, MIN, MAX}) {
            // With every name there it is a fault still.
            dueNothing("byte " + b, upTo(22, 0, with(join(RAISES, INT, b, PRIM, 29))), FAULT);
        }
    }

    private static void parts() {
        where = "30 bytes from i on, n of them (global 4: i or n below 0, or i and n together above its length)";
        String five = "abcde";
        for (int i = -1; i <= 6; i++) {
            for (int n = -1; n <= 6; n++) {
                CellEngine x = withTexts(five, "", TEXT, 0, INT, i, INT, n, PRIM, 30, STOP);
                if (i >= 0 && n >= 0 && i + n <= 5) {
                    dueText(i + ", " + n, five.substring(i, i + n), 1 + (n + 3) / 4, x);
                } else {
                    dueNamed(i + ", " + n, 4, x);
                }
            }
        }
        int[][] far = {{MAX, 0}, {0, MAX}, {MAX, 1}, {1, MAX}, {MAX, MAX}, {MIN, 0}, {0, MIN}, {MIN, MIN}, {MIN, MAX}, {MAX, MIN},
            {-1, 2}, {6, -1}};
        for (int[] f : far) {
            dueNamed(f[0] + ", " + f[1], 4, withTexts(five, "", TEXT, 0, INT, f[0], INT, f[1], PRIM, 30, STOP));
        }
        dueText("nothing of nothing", "", 1, withTexts("", "", TEXT, 0, INT, 0, INT, 0, PRIM, 30, STOP));
        dueNamed("one of nothing", 4, withTexts("", "", TEXT, 0, INT, 0, INT, 1, PRIM, 30, STOP));
        dueNamed("nothing behind nothing", 4, withTexts("", "", TEXT, 0, INT, 1, INT, 0, PRIM, 30, STOP));
        int[][] ofLongest = {{0, 65535, 1}, {65534, 1, 1}, {65535, 0, 1}, {1, 65534, 1}, {0, 65536, 0}, {65535, 1, 0}, {65536, 0, 0},
            {1, 65535, 0}};
        for (int[] o : ofLongest) {
            CellEngine x = longest();
            x.cut(x.count(0) - 1);
            add(x, RAISES);
            add(x, INT, o[0], INT, o[1], PRIM, 30, STOP);
            due("of the longest, " + o[0] + ", " + o[1], run(x, 0, 0), o[2] == 1 ? STOPPED : RAISED);
            due("of the longest, " + o[0] + ", " + o[1], x.look(NONE, 0, 1), o[2] == 1 ? o[1] : 104);
        }
    }

    private static void bytes() {
        where = "31 byte i (global 4)";
        for (String v : new String[] {"", "a", "abcd", "abcde\u0080\u00ff"}) {
            for (int i : new int[] {-1, 0, 1, 3, 4, 5, 6, 7, 8, MIN, MAX}) {
                CellEngine x = withTexts(v, "", TEXT, 0, INT, i, PRIM, 31, STOP);
                if (i >= 0 && i < v.length()) {
                    dueNumber("byte " + i + " of " + v, v.charAt(i), x);
                } else {
                    dueNamed("byte " + i + " of " + v, 4, x);
                }
            }
        }
        for (int i : new int[] {0, 65534, 65535}) {
            CellEngine x = longest();
            x.cut(x.count(0) - 1);
            add(x, RAISES);
            add(x, INT, i, PRIM, 31, STOP);
            due("byte " + i + " of the longest", run(x, 0, 0), i < 65535 ? STOPPED : RAISED);
            due("byte " + i + " of the longest", x.look(NONE, 0, 1), i == 0 ? '1' : i == 65534 ? '7' : 104);
        }
    }

    private static void orders() {
        where = "32 .. 36 bytes without sign; of two that begin alike the shorter one first";
        String[] rising = {"", "\u0001", "a", "a\u0001", "aa", "abc", "abcd", "abcd\u0001", "abcde", "abce", "b", "\u007f", "\u0080",
            "\u00ff", "\u00ff\u00ff", "\u00ff\u00ff\u00ff\u00ff", "\u00ff\u00ff\u00ff\u00ff\u00ff"};
        for (int i = 0; i < rising.length; i++) {
            for (int j = 0; j < rising.length; j++) {
                int[] want = {Integer.compare(i, j), i < j ? 1 : 0, i > j ? 1 : 0, i <= j ? 1 : 0, i >= j ? 1 : 0};
                for (int k = 0; k < 5; k++) {
                    dueNumber(32 + k + " of " + i + ", " + j, want[k],
                        withTexts(rising[i], rising[j], TEXT, 0, TEXT, 1, PRIM, 32 + k, STOP));
                }
            }
        }
        // Bytes 0 are bytes, too: none, one, two, .. five of them come one behind the other.
        CellEngine x = withTexts("", "", TEXT, 0, SETGLOBAL, 30);
        for (int k = 0; k < 5; k++) {
            add(x, GLOBAL, 30 + k, INT, 0, PRIM, 29, PRIM, 27, SETGLOBAL, 31 + k);
        }
        add(x, INT, 0, STOP);
        due("run", run(x, 0, 0), STOPPED);
        for (int i = 0; i <= 5; i++) {
            for (int j = 0; j <= 5; j++) {
                x.cut(0);
                add(x, GLOBAL, 30 + i, GLOBAL, 30 + j, PRIM, 32, GLOBAL, 30 + i, GLOBAL, 30 + j, EQUAL, RECORD, 2, STOP);
                due("run", run(x, 0, 0), STOPPED);
                due(i + " and " + j + " bytes 0", x.look(NONE, 1, 1), Integer.compare(i, j));
                due(i + " and " + j + " bytes 0 are equal", x.look(NONE, 2, 1), i == j ? 1 : 0);
            }
        }
    }

    private static void printed() {
        where = "37 its bytes come to the output (puts 0)";
        for (String v : new String[] {"", "a", "abcd", "\u00ff\u0001\u0080bcde"}) {
            CellEngine x = withTexts(v, "", INT, 8, TEXT, 0, PRIM, 37, RECORD, 2, STOP);
            due("run", run(x, 0, 0), STOPPED);
            dueLook(x, NONE, 1, 0, 8, 0);
            dueLook(x, NONE, 2, 0, 0, 0);
            due("bytes", x.count(9), v.length());
            due("made", x.count(4), 0);
            for (int k = -1; k <= v.length(); k++) {
                due("byte " + k, x.out(k), k >= 0 && k < v.length() ? v.charAt(k) : NONE);
            }
        }
    }

    private static void digits() {
        where = "38 its decimal digits as a string, behind ~ when it is below 0";
        int power = 1;
        for (int length = 1; length <= 9; length++) {
            power *= 10;
            for (int n : new int[] {power - 1, power, power + 1, 1 - power, -power, -power - 1}) {
                dueDigits(n);
            }
        }
        for (int n : new int[] {0, 1, -1, 2, MAX, MAX - 1, MIN, MIN + 1, 2000000000, -2000000000}) {
            dueDigits(n);
        }
    }

    private static void dueDigits(int n) {
        String want = n < 0 ? "~" + Long.toString(-(long) n) : Long.toString(n);
        dueText("38 of " + n, want, 1 + (want.length() + 3) / 4, withTexts("", "", INT, n, PRIM, 38, STOP));
    }

    private static void characters() {
        where = "39 itself (global 6 when it is not 0 .. 255)";
        for (int n : new int[] {0, 1, 127, 128, 254, 255}) {
            duePrimitive(39, n, n);
        }
        for (int n : new int[] {-1, 256, 257, -256, MIN, MAX}) {
            dueRaises(39, 6, n);
        }
    }

    /** Puts a list of n bytes (n, n - 1, .. 1 from its front, modulo 256) on the stack, then does the last words. */
    private static CellEngine listOf(int n, int... last) {
        CellEngine x = with(LOCALS, 2, LOCAL, 0, INT, n, PRIM, 7, UNLESS, 34, LOCAL, 0, INT, 1, PRIM, 0, STORE, 0);
        add(x, LOCAL, 0, INT, 255, PRIM, 20, LOCAL, 1, RECORD, 2, BUILD, 1, STORE, 1, JUMP, 2);
        add(x, LOCAL, 1, INT, 0, STORE, 1);
        add(x, last);
        return x;
    }

    private static void imploded() {
        where = "40 a list of scalars 0 .. 255: the string of them";
        for (int n : new int[] {0, 1, 2, 3, 4, 5, 8, 9, 255, 256, 257}) {
            CellEngine x = listOf(n, PRIM, 40, STOP);
            due("run", run(x, 0, 0), STOPPED);
            due("length", x.look(NONE, 0, 1), n);
            due("made", x.count(4), 1 + (n + 3) / 4);
            due("cells", x.reached(), 1 + (n + 3) / 4);
            for (int k = 0; k < n; k++) {
                due("byte " + k, x.byteOf(NONE, 0, k), n - k & 255);
            }
            due("none behind", x.byteOf(NONE, 0, n), NONE);
        }
        // As long a list as there can be: 5 cells for each, and those of the string.
        int most = 24965;
        for (int n = most; n <= most + 1; n++) {
            CellEngine x = listOf(n, PRIM, 40, STOP);
            x.limits(131072, MAX, 0);
            due("a list of " + n, run(x, 0, 0), 5 * n + 1 + (n + 3) / 4 <= 131072 ? STOPPED : NO_ROOM);
            due("length", x.look(NONE, 0, 1), n == most ? n : 0);
        }
        for (int b : new int[] {0, 255}) {
            dueText("byte " + b, String.valueOf((char) b), 2,
                withTexts("", "", INT, b, INT, 0, RECORD, 2, BUILD, 1, PRIM, 40, STOP));
        }
    }

    private static void noLists() {
        where = "40 what is no such list is a fault";
        int[][] ends = {{INT, 1}, {INT, -1}, {INT, MIN}, {NAME, 0}, {INT, 0, RECORD, 1}, {CLOSURE, 0, 0}, {INT, 0, REF}, {TEXT, 0},
            {NAME, 1, INT, 0, PACKET}, {INT, 0, BUILD, 1}, {INT, 0, BUILD, 0}, {INT, 65, RECORD, 1, BUILD, 1},
            {INT, 65, INT, 0, INT, 0, RECORD, 3, BUILD, 1}, {INT, 65, INT, 0, RECORD, 2, BUILD, 0}, {INT, 65, INT, 0, RECORD, 2, BUILD, 2},
            {INT, 65, INT, 0, RECORD, 2, BUILD, -1}, {INT, 65, INT, 0, RECORD, 2}, {INT, 256, INT, 0, RECORD, 2, BUILD, 1},
            {INT, -1, INT, 0, RECORD, 2, BUILD, 1}, {NAME, 65, INT, 0, RECORD, 2, BUILD, 1}, {TEXT, 0, INT, 0, RECORD, 2, BUILD, 1},
            {INT, 65, INT, 0, CLOSURE, 0, 2, BUILD, 1}};
        for (int[] end : ends) {
            for (int before = 0; before <= 3; before++) {
                CellEngine x = withTexts("", "", LOCALS, 1);
                add(x, end);
                for (int k = 0; k < before; k++) {
                    add(x, STORE, 0, INT, 66, LOCAL, 0, RECORD, 2, BUILD, 1);
                }
                int place = x.count(0);
                add(x, PRIM, 40);
                dueNothing(java.util.Arrays.toString(end) + " behind " + before, upTo(place, 0, x), FAULT);
            }
        }
    }

    private static void exploded() {
        where = "41 a string: the list of its bytes";
        for (String v : new String[] {"", "a", "ab", "\u00ff\u0001\u0080de"}) {
            CellEngine x = withTexts(v, "", TEXT, 0, PRIM, 41, STOP);
            due("run", run(x, 0, 0), STOPPED);
            due("made", x.count(4), 5 * v.length());
            due("cells", x.reached(), 5 * v.length());
            long path = 0;
            for (int k = 0; k < Math.min(3, v.length()); k++) {
                dueLook(x, NONE, path, 3, 1, 1);
                dueLook(x, NONE, path | 1L << 16 * k, 2, 0, 2);
                dueLook(x, NONE, path | 0x0101L << 16 * k, 0, v.charAt(k), 0);
                path |= 0x0201L << 16 * k;
            }
            if (v.length() <= 3) {
                dueLook(x, NONE, path, 0, 0, 0);
            }
        }
        // A byte 0 is in the list, and back.
        CellEngine y = withTexts("", "", INT, 0, PRIM, 29, PRIM, 41, PRIM, 40, STOP);
        due("run", run(y, 0, 0), STOPPED);
        dueString("a byte 0", y, NONE, "\u0000");
        // The longest string that has room: n bytes, 1 and a quarter of n cells, and 5 n cells.
        int most = 24965;
        for (int n = most; n <= most + 1; n++) {
            CellEngine x = halfway(GLOBAL, 20, INT, 0, INT, n, PRIM, 30, INT, 0, SETGLOBAL, 20, PRIM, 41, STOP);
            x.limits(131072, MAX, 0);
            due("a string of " + n, run(x, 0, 0), n == most ? STOPPED : NO_ROOM);
            due("cells", x.reached(), n == most ? 5 * n : 0);
        }
        CellEngine z = longest();
        z.cut(z.count(0) - 1);
        add(z, PRIM, 41, STOP);
        z.limits(131072, MAX, 0);
        int place = z.count(0) - 3;
        due("the longest string has no room", run(z, 0, 0), NO_ROOM);
        due("place", z.count(10), place);
    }

    private static final int[][] MAKERS = {
        {1, 2, TEXT, 1, TEXT, 1, PRIM, 27}, {2, 3, TEXT, 0, TEXT, 1, PRIM, 27}, {3, 4, TEXT, 0, TEXT, 0, PRIM, 27}, {2, 0, INT, 0, PRIM, 29},
        {1, 2, TEXT, 0, INT, 4, INT, 0, PRIM, 30}, {2, 2, TEXT, 0, INT, 0, INT, 4, PRIM, 30}, {2, 0, INT, 9999, PRIM, 38},
        {3, 0, INT, 10000, PRIM, 38}, {3, 0, INT, -1000, PRIM, 38}, {1, 0, INT, 0, PRIM, 40},
        {2, 5, INT, 65, INT, 0, RECORD, 2, BUILD, 1, PRIM, 40}, {20, 2, TEXT, 0, PRIM, 41}};

    private static void countedAsMade() {
        where = "the cells that 27, 29, 30, 38, 40 and 41 make count as made, as by 36";
        for (int[] maker : MAKERS) {
            int[] code = java.util.Arrays.copyOfRange(maker, 2, maker.length);
            String what = "primitive " + maker[maker.length - 1];
            for (int less = 0; less <= 1; less++) {
                CellEngine x = makerOf(code);
                x.limits(1000, 10 + maker[0] - less, 0);
                upTo(2 + code.length - 2, 0, x);
                due("made before", x.count(4), 10);
                if (less == 0) {
                    dueDone(what, x);
                    due(what + " made", x.count(4), 10 + maker[0]);
                    due("stop", x.step(1), STOPPED);
                } else {
                    dueNothing(what, x, NO_ROOM);
                }
            }
        }
        where = "41 makes none of an empty string, and asks for none";
        CellEngine y = makerOf(new int[] {TEXT, 1, PRIM, 41});
        upTo(4, 0, y);
        y.limits(0, 0, 0);
        dueDone("above both limits", y);
        due("made", y.count(4), 10);
        due("stop", y.step(1), STOPPED);
        dueLook(y, NONE, 0, 0, 0, 0);
        CellEngine z = makerOf(new int[] {TEXT, 1, PRIM, 28, PRIM, 40});
        upTo(6, 0, z);
        z.limits(1000, 10, 0);
        dueNothing("40 makes one cell of an empty list", z, NO_ROOM);
    }

    private static CellEngine makerOf(int[] code) {
        CellEngine x = new CellEngine();
        text(x, "four");
        text(x, "");
        add(x, MAKE, 10);
        add(x, code);
        x.code(STOP);
        return x;
    }

    private static void askedForRoom() {
        where = "what a primitive takes is reached until it is done; the list of 41 counts as one";
        for (int[] maker : MAKERS) {
            int[] code = java.util.Arrays.copyOfRange(maker, 2, maker.length);
            String what = "primitive " + maker[maker.length - 1];
            for (int less = 0; less <= 1; less++) {
                CellEngine x = makerOf(code);
                upTo(2 + code.length - 2, 0, x);
                x.limits(maker[0] + maker[1] - less, 1000, 0);
                if (less == 0) {
                    dueDone(what, x);
                    due("stop", x.step(1), STOPPED);
                    due("cells", x.reached(), maker[0]);
                } else {
                    dueNothing(what, x, NO_ROOM);
                }
            }
        }
        where = "what makes nothing asks for no room";
        int[][] others = {{INT, 1, INT, 2, PRIM, 0}, {TEXT, 0, PRIM, 28}, {TEXT, 0, INT, 1, PRIM, 31}, {TEXT, 0, TEXT, 0, PRIM, 32},
            {TEXT, 0, PRIM, 37}, {INT, 7, PRIM, 39}};
        for (int[] code : others) {
            CellEngine x = makerOf(code);
            upTo(2 + code.length - 2, 0, x);
            x.limits(0, 0, 0);
            dueDone("primitive " + code[code.length - 1], x);
        }
        // What is raised instead of a string asks for none either.
        CellEngine y = withTexts("abc", "", TEXT, 0, INT, 2, INT, 2, PRIM, 30);
        upTo(y.count(0) - 2, 0, y);
        y.limits(0, 0, 0);
        due("raised", y.step(1), RAISED);
        due("raised", y.look(NONE, 0, 1), 104);
    }
}
