/** The steps by their codes (but for CALL, which CallsTest looks at), as run() of promise 6 takes them. */
public final class StepsTest {
    private static final int ZERO = Checks.ZERO, NULL = Checks.NULL, INDEX = Checks.INDEX, CAST = Checks.CAST;
    private static final int SIZE = Checks.SIZE, OVER = Checks.OVER, PILE = Checks.PILE, CODE = Checks.CODE;
    private static final int MIN = Integer.MIN_VALUE, MAX = Integer.MAX_VALUE;

    private static final Checks checks = new Checks();

    public static void main(String[] args) {
        pileSteps();
        leaves();
        calculations();
        calculationsThatDoNotFit();
        jumps();
        newRows();
        manyRowsAtOnce();
        elements();
        elementsThatAreNot();
        lengths();
        copies();
        copiesThatAreNot();
        ends();
        events();
        tooFewValues();
        tooManyValues();
        noSuchCode();
        checks.end();
    }

    private static void pileSteps() {
        checks.gives("0", MIN, 1, 0, MIN, 27, 0);
        checks.gives("0", MAX, 1, 0, MAX, 27, 0);
        checks.gives("3", 49, 7, 3, 0, 8, 0, 27, 0);
        checks.gives("4", 7, 7, 0, 1, 4, 0, 27, 0);
        checks.gives("5", 1, 2, 0, 3, 5, 0, 7, 0, 27, 0);
        checks.gives("5 twice", -1, 2, 0, 3, 5, 0, 5, 0, 7, 0, 27, 0);
        checks.gives("5 and no third", 20, 20, 0, 3, 0, 4, 5, 0, 4, 0, 4, 0, 27, 0);
        checks.gives("5 with a row", 2, 10, 0, 2, 15, 0, 5, 0, 4, 0, 21, 0, 27, 0);
        checks.fails("22 is no number", CAST, 1, 22, 0, 27, 0);
        checks.gives("30", 0, 1, 30, 0, 27, 0);
        checks.gives("31", -1, 1, 31, 0, 27, 0);
    }

    private static void leaves() {
        checks.gives("1, 2", 8, 8, 2, 7, 1, 7, 27, 0);
        checks.gives("1 at first", 0, 8, 1, 0, 27, 0);
        for (int x : new int[] {-1, 8, MIN, MAX}) {
            checks.fails("1 " + x, CODE, 8, 1, x);
            checks.fails("2 " + x, CODE, 8, 2, x);
            checks.fails("2 CODE ahead of CAST " + x, CODE, 8, 22, 0, 2, x);
        }
        checks.fails("2 NOTHING", CAST, 8, 22, 0, 2, 7);
        checks.fails("2 a row", CAST, 8, 15, 0, 2, 7);
    }

    private static void calculations() {
        long[] as = {0, 1, -1, 7, -7, Long.MAX_VALUE, Long.MIN_VALUE};
        int[] bs = {1, -1, 2, -2, 3, MAX, MIN};
        for (long a : as) {
            for (int b : bs) {
                String what = a + " and " + b;
                checks.gives("9 " + what, a / b, a, 0, b, 9, 0, 27, 0);
                checks.gives("10 " + what, a % b, a, 0, b, 10, 0, 27, 0);
                checks.gives("11 " + what, a < b ? 1 : 0, a, 0, b, 11, 0, 27, 0);
                checks.gives("12 " + what, a == b ? 1 : 0, a, 0, b, 12, 0, 27, 0);
            }
            checks.fails("9 by 0", ZERO, a, 0, 0, 9, 0);
            checks.fails("10 by 0", ZERO, a, 0, 0, 10, 0);
            checks.gives("12 itself", 1, a, 3, 0, 12, 0, 27, 0);
            checks.gives("11 itself", 0, a, 3, 0, 11, 0, 27, 0);
        }
        for (int code = 6; code <= 12; code++) {
            checks.fails("b is NOTHING " + code, CAST, 1, 22, 0, code, 0);
            checks.fails("a is NOTHING " + code, CAST, 1, 22, 0, 0, 0, code, 0);
            checks.fails("b is a row " + code, CAST, 1, 0, 1, 15, 0, code, 0);
            checks.fails("a is a row " + code, CAST, 1, 16, 0, 0, 0, code, 0);
        }
    }

    private static void calculationsThatDoNotFit() {
        long most = Long.MAX_VALUE;
        long least = Long.MIN_VALUE;
        checks.gives("6", most, most - 1, 0, 1, 6, 0, 27, 0);
        checks.fails("6", OVER, most, 0, 1, 6, 0);
        checks.gives("6", least, least + 1, 0, -1, 6, 0, 27, 0);
        checks.fails("6", OVER, least, 0, -1, 6, 0);
        checks.fails("6 itself", OVER, least, 3, 0, 6, 0);
        checks.gives("6", -1, most, 3, 0, 0, -1, 8, 0, 0, -1, 6, 0, 6, 0, 27, 0);
        checks.gives("7", least, least + 1, 0, 1, 7, 0, 27, 0);
        checks.fails("7", OVER, least, 0, 1, 7, 0);
        checks.gives("7", most, most - 1, 0, -1, 7, 0, 27, 0);
        checks.fails("7", OVER, most, 0, -1, 7, 0);
        checks.fails("7 from 0", OVER, least, 0, 0, 5, 0, 7, 0);
        checks.gives("7 from -1", most, least, 0, -1, 5, 0, 7, 0, 27, 0);
        checks.gives("7 itself", 0, least, 3, 0, 7, 0, 27, 0);
        checks.gives("8", -most, most, 0, -1, 8, 0, 27, 0);
        checks.fails("8 the least by -1", OVER, least, 0, -1, 8, 0);
        checks.fails("8 -1 by the least", OVER, least, 0, -1, 5, 0, 8, 0);
        checks.gives("8 the least by 1", least, least, 0, 1, 8, 0, 27, 0);
        checks.gives("8 1 by the least", least, least, 0, 1, 5, 0, 8, 0, 27, 0);
        checks.gives("8 by 0", 0, least, 0, 0, 8, 0, 27, 0);
        checks.gives("8 0 by it", 0, least, 0, 0, 5, 0, 8, 0, 27, 0);
        checks.fails("8 itself", OVER, 3037000500L, 3, 0, 8, 0);
        checks.gives("8 itself", 3037000499L * 3037000499L, 3037000499L, 3, 0, 8, 0, 27, 0);
        checks.fails("8 1 << 62 by 2", OVER, 1L << 62, 0, 2, 8, 0);
        checks.gives("8 1 << 62 by -2", least, 1L << 62, 0, -2, 8, 0, 27, 0);
    }

    private static void jumps() {
        checks.gives("13 ahead", 5, 5, 13, 2, 26, 0, 27, 0);
        checks.gives("13 to the end", 0, 5, 13, 3, 26, 0, 27, 0);
        checks.gives("14 of 0", 9, 0, 14, 3, 0, 1, 27, 0, 0, 9, 27, 0);
        checks.gives("14 of 2", 1, 2, 14, 3, 0, 1, 27, 0, 0, 9, 27, 0);
        checks.gives("14 of 1 << 32", 1, 1L << 32, 14, 3, 0, 1, 27, 0, 0, 9, 27, 0);
        checks.gives("14 to the end", 0, 0, 14, 2, 26, 0);
        checks.fails("14 not to the end", 13, 1, 14, 2, 26, 0);
        checks.fails("14 as the only step, behind the end", CODE, 1, 14, 2);
        checks.gives("14 as the only step, to the end", 0, 1, 14, 1);
        checks.fails("14 of nothing at all, ahead of CODE", PILE, 1, 4, 0, 14, -1);
        // the number is gone when CODE comes: only the handler's number is left
        checks.gives("14 CODE takes its number", CODE, 1, 24, 3, 14, -1, 26, 0, 27, 0);
        CallWalker w = Checks.with(24, 3, 14, -1, 26, 0, 4, 0, 4, 0);
        checks.same("14 CODE leaves nothing else", w.run(0, 0, 1, 600), PILE);
        checks.same("14 CODE leaves nothing else", w.told(0), 4);
        checks.same("14 CODE leaves nothing else", w.told(1), 2);
        for (int x : new int[] {-1, 3, MIN, MAX}) {
            checks.fails("13 " + x, CODE, 0, 13, x, 4, 0);
            checks.fails("14 " + x, CODE, 0, 14, x, 4, 0);
            checks.fails("14 CODE whatever the number " + x, CODE, 1, 14, x, 4, 0);
            checks.fails("14 CODE of a large number " + x, CODE, 1L << 32, 14, x, 4, 0);
            checks.fails("24 " + x, CODE, 0, 24, x, 4, 0);
            checks.fails("14 CAST ahead of CODE " + x, CAST, 0, 22, 0, 14, x);
        }
        checks.fails("14 a row", CAST, 0, 15, 0, 14, 0);
        // 5 + 4 + 3 + 2 + 1 in leaf 0
        checks.gives("13 back", 15, 5, 3, 0, 14, 10, 3, 0, 1, 0, 6, 0, 2, 0, 0, 1, 7, 0, 13, 0, 4, 0, 1, 0, 27, 0);
    }

    private static void newRows() {
        for (int code = 15; code <= 16; code++) {
            for (int n = 0; n <= 16; n++) {
                checks.gives(code + " of " + n, n, n, code, 0, 21, 0, 27, 0);
            }
            checks.fails(code + " of -1", SIZE, -1, code, 0);
            checks.fails(code + " of the least", SIZE, Long.MIN_VALUE, code, 0);
            checks.fails(code + " of 17", OVER, 17, code, 0);
            checks.fails(code + " of the most", OVER, Long.MAX_VALUE, code, 0);
            checks.fails(code + " of 1 << 32", OVER, 1L << 32, code, 0);
            checks.fails(code + " of NOTHING", CAST, 1, 22, 0, code, 0);
            checks.fails(code + " of a row", CAST, 1, code, 0, code, 0);
        }
        // a place in the row is used, then the run comes again: the new row must be 0 all
        CallWalker w = new CallWalker();
        for (int place = 0; place < 3; place++) {
            Checks.write(w, 0, 0, 15, 0, 3, 0, 0, place, 17, 0, 28, 0, 0, place, 0, 9, 19, 0);
            for (int i = 0; i < 2; i++) {
                checks.same("15 run", w.run(0, 0, 3, 99), 0);
                checks.same("15 0 all", w.value(0), 0);
            }
        }
        // as many rows as the limit allows
        Checks.write(w, 0, 0, 0, 16, 15, 0, 4, 0, 13, 0);
        checks.same("15 many", w.run(0, 0, 3, 600), Checks.LIMIT);
        Checks.write(w, 0, 0, 0, 16, 15, 0, 4, 0, 1, 0, 0, 1, 6, 0, 3, 0, 2, 0, 0, 45, 11, 0, 14, 12, 13, 0,
            0, 16, 15, 0, 3, 0, 0, 15, 0, 5, 19, 0, 0, 15, 17, 0, 27, 0);
        checks.same("15 many, then one", w.run(0, 0, 3, 600), 0);
        checks.same("15 many, then one", w.given(), 5);
    }

    private static void manyRowsAtOnce() {
        // rows of 1 .. 12 elements, then their lengths as events until the pile is empty
        CallWalker w = Checks.with(4, 0, 24, 20, 1, 0, 0, 1, 6, 0, 3, 0, 2, 0, 15, 0, 1, 0, 0, 10, 11, 0, 14, 13, 13, 2,
            0, 11, 15, 0, 0, 12, 15, 0, 21, 0, 28, 0, 13, 17);
        checks.same("12 rows", w.run(0, 0, 0, 600), 0);
        checks.same("12 rows", w.events(), 12);
        for (int i = 0; i < 12; i++) {
            checks.same("12 rows: " + i, w.value(i), 12 - i);
        }
        // of two rows the upper one goes, and the new one takes its place, 0 all
        Checks.write(w, 0, 0, 15, 0, 0, 2, 15, 0, 3, 0, 0, 1, 0, 8, 19, 0, 4, 0, 0, 2, 15, 0, 0, 1, 17, 0, 28, 0,
            0, 1, 17, 0, 28, 0);
        checks.same("a new row is 0 all", w.run(0, 0, 2, 600), 0);
        checks.same("a new row is 0 all", w.value(0), 0);
        // of three rows the middle one goes; the new one is none of the two others
        Checks.write(w, 0, 0, 15, 0, 0, 2, 15, 0, 3, 0, 0, 1, 0, 8, 19, 0, 0, 2, 15, 0, 5, 0, 4, 0, 0, 2, 15, 0,
            3, 0, 0, 1, 0, 9, 19, 0, 4, 0, 0, 1, 17, 0, 28, 0, 0, 1, 17, 0, 28, 0);
        checks.same("a new row is no other", w.run(0, 0, 2, 600), 0);
        checks.same("a new row is no other: the upper", w.value(0), 0);
        checks.same("a new row is no other: the lower", w.value(1), 0);
    }

    private static void elements() {
        for (int kind = 0; kind <= 1; kind++) {
            int make = 15 + kind;
            int read = 17 + kind;
            int change = 19 + kind;
            checks.gives(read + " at first", 0, 3, make, 0, 0, 2, read, 0, 27, 0);
            checks.gives(change + " the last", -8, 3, make, 0, 3, 0, 0, 2, 0, -8, change, 0, 0, 2, read, 0, 27, 0);
            checks.gives(change + " the first", 8, 3, make, 0, 3, 0, 0, 0, 0, 8, change, 0, 0, 0, read, 0, 27, 0);
            checks.gives(change + " no other", 0, 3, make, 0, 3, 0, 0, 0, 0, 8, change, 0, 0, 1, read, 0, 27, 0);
            // two rows are two
            checks.gives(change + " of another", 0, 3, make, 0, 0, 3, make, 0, 0, 1, 0, 7, change, 0,
                0, 1, read, 0, 27, 0);
        }
        long wide = 0x1_8000_0001L;
        checks.gives("19 64 bits", wide, wide, 2, 0, 0, 1, 15, 0, 3, 0, 0, 0, 1, 0, 19, 0, 0, 0, 17, 0, 27, 0);
        checks.gives("20 the lowest 32 bits", (int) wide, wide, 2, 0, 0, 1, 16, 0, 3, 0, 0, 0, 1, 0, 20, 0,
            0, 0, 18, 0, 27, 0);
        checks.gives("20 of 1 << 32", 0, 1L << 32, 2, 0, 0, 1, 16, 0, 3, 0, 0, 0, 1, 0, 20, 0, 0, 0, 18, 0, 27, 0);
    }

    private static void elementsThatAreNot() {
        for (int kind = 0; kind <= 1; kind++) {
            int make = 15 + kind;
            int other = 16 - kind;
            int read = 17 + kind;
            int change = 19 + kind;
            for (int i : new int[] {-1, 3, MIN, MAX}) {
                checks.fails(read + " element " + i, INDEX, 3, make, 0, 0, i, read, 0);
                checks.fails(change + " element " + i, INDEX, 3, make, 0, 0, i, 0, 1, change, 0);
            }
            checks.fails(read + " far", INDEX, 1L << 32, 2, 0, 0, 3, make, 0, 1, 0, read, 0);
            checks.fails(change + " far", INDEX, 1L << 32, 2, 0, 0, 3, make, 0, 1, 0, 0, 1, change, 0);
            checks.fails(read + " of none", INDEX, 0, make, 0, 0, 0, read, 0);
            checks.fails(read + " of the other kind", CAST, 3, other, 0, 0, 9, read, 0);
            checks.fails(change + " of the other kind", CAST, 3, other, 0, 0, 9, 0, 1, change, 0);
            checks.fails(read + " of a number", CAST, 3, 0, 0, read, 0);
            checks.fails(change + " of a number", CAST, 3, 0, 0, 0, 0, change, 0);
            checks.fails(read + " of NOTHING", NULL, 3, 22, 0, 0, -1, read, 0);
            checks.fails(change + " of NOTHING", NULL, 3, 22, 0, 0, -1, 0, 0, change, 0);
            checks.fails(read + " CAST of i ahead of NULL", CAST, 3, 22, 0, 22, 0, read, 0);
            checks.fails(change + " CAST of i ahead of NULL", CAST, 3, 22, 0, 22, 0, 0, 0, change, 0);
            checks.fails(change + " CAST of v ahead of NULL", CAST, 3, 22, 0, 0, 0, 22, 0, change, 0);
            checks.fails(change + " a row as v", CAST, 3, make, 0, 0, 0, 0, 1, make, 0, change, 0);
        }
    }

    private static void lengths() {
        checks.fails("21 of NOTHING", NULL, 3, 22, 0, 21, 0);
        checks.fails("21 of a number", CAST, 3, 21, 0);
    }

    /** Leaf 0 .. 3: a row of 4 longs, 1 2 3 4, after n of its elements went from i on to j on. */
    private static void copy(int i, int j, int n, long... want) {
        for (int kind = 0; kind <= 1; kind++) {
            CallWalker w = new CallWalker();
            // one behaviour fills the row, and calls the other with it, which has room for the rest
            Checks.write(w, 0, 0, 4, 0, 0, 0, 0, 99, 0, 4, 15 + kind, 0, 3, 0, 0, 0, 0, 1, 19 + kind, 0,
                3, 0, 0, 1, 0, 2, 19 + kind, 0, 3, 0, 0, 2, 0, 3, 19 + kind, 0, 3, 0, 0, 3, 0, 4, 19 + kind, 0, 29, 1);
            Checks.write(w, 0, 1, 3, 0, 3, 0, 0, i, 5, 0, 0, j, 0, n, 23, 0,
                3, 0, 0, 0, 17 + kind, 0, 2, 0, 3, 0, 0, 1, 17 + kind, 0, 2, 1,
                3, 0, 0, 2, 17 + kind, 0, 2, 2, 3, 0, 0, 3, 17 + kind, 0, 2, 3);
            checks.same("23 run", w.run(0, 0, 0, 99), 0);
            for (int k = 0; k < 4; k++) {
                checks.same("23 from " + i + " to " + j + ", " + n + ": " + k, w.leaf(0, k), want[k]);
            }
        }
    }

    private static void copies() {
        copy(0, 1, 3, 1, 1, 2, 3);
        copy(1, 0, 3, 2, 3, 4, 4);
        copy(0, 0, 4, 1, 2, 3, 4);
        copy(3, 0, 1, 4, 2, 3, 4);
        copy(0, 3, 1, 1, 2, 3, 1);
        copy(0, 2, 2, 1, 2, 1, 2);
        copy(4, 4, 0, 1, 2, 3, 4);
        copy(4, 0, 0, 1, 2, 3, 4);
        // b, b; then a with 7 in it; then b, a, i = 0, b, j = 1, n = 1
        checks.gives("23 a to b", 7, 2, 15, 0, 3, 0, 0, 2, 15, 0, 3, 0, 0, 0, 0, 7, 19, 0, 5, 0, 0, 0, 5, 0,
            0, 1, 0, 1, 23, 0, 0, 1, 17, 0, 27, 0);
    }

    private static void copiesThatAreNot() {
        int[][] wrong = {
            {0, 0, 5}, {1, 0, 4}, {0, 1, 4}, {5, 0, 0}, {0, 5, 0}, {-1, 0, 1}, {0, -1, 1}, {0, 0, -1}, {4, 0, 1},
            {0, 4, 1}, {-1, 0, 0}, {0, -1, 0}, {MAX, 0, MAX}, {0, MAX, MAX}, {0, 0, MAX}, {MIN, 0, MIN}, {1, 1, MIN}
        };
        for (int[] w : wrong) {
            checks.fails("23 " + w[0] + " " + w[1] + " " + w[2], INDEX, 4,
                15, 0, 3, 0, 0, w[0], 5, 0, 0, w[1], 0, w[2], 23, 0);
        }
        long far = 1L << 32;
        checks.fails("23 far n", INDEX, far, 2, 0, 0, 4, 15, 0, 3, 0, 0, 0, 5, 0, 0, 0, 1, 0, 23, 0);
        checks.fails("23 far j", INDEX, far, 2, 0, 0, 4, 15, 0, 3, 0, 0, 0, 5, 0, 1, 0, 0, 1, 23, 0);
        checks.fails("23 far i", INDEX, far, 2, 0, 0, 4, 15, 0, 3, 0, 1, 0, 5, 0, 0, 0, 0, 1, 23, 0);
        checks.fails("23 farthest", INDEX, Long.MAX_VALUE, 2, 0, 0, 4, 15, 0, 3, 0, 1, 0, 5, 0, 1, 0, 1, 0, 23, 0);
        // a, i, b, j, n
        checks.fails("23 n", CAST, 1, 22, 0, 0, 0, 22, 0, 0, 0, 22, 0, 23, 0);
        checks.fails("23 j", CAST, 1, 22, 0, 0, 0, 22, 0, 22, 0, 0, 0, 23, 0);
        checks.fails("23 i", CAST, 1, 22, 0, 22, 0, 22, 0, 0, 0, 0, 0, 23, 0);
        checks.fails("23 a is NOTHING, b a number", NULL, 1, 22, 0, 0, 0, 0, 0, 0, 0, 0, 0, 23, 0);
        checks.fails("23 b is NOTHING, a a number", NULL, 1, 0, 0, 0, 0, 22, 0, 0, 0, 0, 0, 23, 0);
        checks.fails("23 both numbers", CAST, 1, 0, 0, 0, 0, 0, 0, 0, 0, 0, 0, 23, 0);
        checks.fails("23 a a number", CAST, 1, 0, 0, 0, 0, 0, 1, 15, 0, 0, 0, 0, 0, 23, 0);
        checks.fails("23 b a number", CAST, 1, 15, 0, 0, 0, 0, 0, 0, 0, 0, 0, 23, 0);
        checks.fails("23 longs to ints", CAST, 1, 15, 0, 0, 9, 0, 1, 16, 0, 0, 9, 0, 9, 23, 0);
        checks.fails("23 ints to longs", CAST, 1, 16, 0, 0, 0, 0, 1, 15, 0, 0, 0, 0, 0, 23, 0);
        checks.gives("23 ints to ints", 0, 1, 16, 0, 0, 0, 0, 1, 16, 0, 0, 0, 0, 0, 23, 0);
    }

    private static void ends() {
        for (int own = 0; own < 8; own++) {
            checks.fails("26", 13 + own, 1, 26, own);
        }
        for (int x : new int[] {-1, 8, MIN, MAX}) {
            checks.fails("26 " + x, CODE, 1, 26, x);
        }
        checks.gives("27 ends it", 6, 6, 27, 0, 26, 0);
        checks.fails("27 NOTHING", CAST, 6, 22, 0, 27, 0);
        checks.fails("27 a row", CAST, 6, 15, 0, 27, 0);
    }

    private static void events() {
        checks.fails("28 NOTHING", CAST, 6, 22, 0, 28, 0);
        checks.fails("28 a row", CAST, 6, 15, 0, 28, 0);
        CallWalker w = Checks.with(3, 0, 14, 8, 3, 0, 28, 0, 0, 1, 7, 0, 13, 0, 0, 0, 4, 0);
        checks.same("28 40", w.run(0, 0, 40, 600), 0);
        checks.same("28 40", w.events(), 40);
        checks.same("28 the first", w.value(0), 40);
        checks.same("28 the last", w.value(39), 1);
        checks.same("28 the last", w.event(39, 0), 0);
        checks.noValue("28 no 41st", w, 40);
        checks.same("28 41", w.run(0, 0, 41, 600), PILE);
        checks.same("28 41", w.events(), 0);
        // the 41st fails, its number goes, and the others stay
        Checks.write(w, 0, 0, 24, 8, 3, 0, 14, 9, 3, 0, 28, 0, 0, 1, 7, 0, 13, 1, 27, 0);
        checks.same("28 41 with a handler", w.run(0, 0, 41, 600), 0);
        checks.same("28 41 with a handler", w.events(), 40);
        checks.same("28 41 with a handler", w.given(), PILE);
    }

    private static final int[] TAKES = {
        0, 0, 1, 1, 1, 2, 2, 2, 2, 2, 2, 2, 2, 0, 1, 1, 1, 2, 2, 3, 3, 1, 0, 5, 0, 0, 0, 1, 1, 3, 0, 0
    };

    private static void tooFewValues() {
        for (int code = 0; code < 32; code++) {
            for (int have = 0; have < TAKES[code]; have++) {
                // NOTHINGs, and an x that is no good for any code: PILE is ahead of CODE and CAST
                int[] steps = new int[2 + 2 * have + 2];
                steps[0] = 4;
                for (int i = 0; i < have; i++) {
                    steps[2 + 2 * i] = 22;
                }
                steps[2 + 2 * have] = code;
                steps[3 + 2 * have] = -1;
                checks.fails(code + " with " + have, PILE, 1, steps);
            }
        }
        checks.fails("25", PILE, 1, 25, 0);
        checks.gives("25 with an empty pile", 0, 1, 24, 0, 4, 0, 25, 0);
        checks.gives("25 with 12", 0, 1, 24, 0, 0, 0, 0, 0, 0, 0, 0, 0, 0, 0, 0, 0, 0, 0, 0, 0, 0, 0, 0, 0, 0, 0,
            25, 0);
        // what is there stays: 5 + 11
        checks.gives("PILE takes nothing", 16, 5, 24, 2, 6, 0, 6, 0, 27, 0);
        // what a step takes is gone, though it fails: only the failure's number is there
        CallWalker w = Checks.with(0, 0, 24, 3, 9, 0, 6, 0);
        checks.same("ZERO takes both", w.run(0, 0, 5, 99), PILE);
        checks.same("ZERO takes both", w.told(1), 2);
    }

    /** A pile of 12, then one step. */
    private static int[] full(int code, int x) {
        int[] steps = new int[24];
        steps[22] = code;
        steps[23] = x;
        return steps;
    }

    private static void tooManyValues() {
        for (int code : new int[] {0, 3, 22, 30, 31, 1}) {
            checks.fails(code + " with 12", PILE, 1, full(code, 0));
            checks.fails(code + " with 12", PILE, 1, full(code, -1));
        }
        for (int code : new int[] {2, 4, 5, 6, 7, 11, 12, 13, 14, 15, 16, 28}) {
            checks.gives(code + " with 12", 0, 1, full(code, code == 2 ? 7 : 12));
        }
        for (int code : new int[] {0, 3, 22, 30, 31, 1}) {
            int[] steps = java.util.Arrays.copyOfRange(full(code, 0), 2, 24);
            checks.gives(code + " with 11", 0, 1, steps);
        }
        checks.fails("24 with 12", PILE, 1, full(24, 0));
        checks.fails("24 with 12, CODE first", CODE, 1, full(24, -1));
    }

    private static void noSuchCode() {
        for (int code : new int[] {-1, 32, 33, MIN, MAX}) {
            checks.fails("code " + code, CODE, 1, code, 0);
            checks.fails("code " + code + " with none", CODE, 1, 4, 0, code, 0);
            checks.fails("code " + code + " with 12", CODE, 1, full(code, 0));
        }
    }
}
