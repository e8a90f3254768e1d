import java.math.BigInteger;

/** The steps by their codes (but for CALL: EdgesOfCallsTest) at the edges that the document names of each. */
public final class EdgesOfCodesTest implements Names {
    private static final int MIN = Integer.MIN_VALUE, MAX = Integer.MAX_VALUE;
    private static final long LEAST = Long.MIN_VALUE, MOST = Long.MAX_VALUE;

    /** The steps by which a value comes that is no NUMBER. */
    private static final int[][] NO_NUMBERS = {{NOTHING, 0}, {PUT, 2, NEW_LONGS, 0}, {PUT, 2, NEW_INTS, 0}};
    private static final int[] NO_LEAVES = {MIN, -1, 8, MAX};

    /** Numbers that are beside what fits, in themselves or with one another. */
    private static final long[] NUMBERS = {
        LEAST, LEAST + 1, LEAST / 2 - 1, LEAST / 2, -(1L << 32), -3037000500L, -3037000499L, MIN, -2, -1, 0, 1, 2,
        MAX, 3037000499L, 3037000500L, 1L << 32, MOST / 2, MOST / 2 + 1, MOST - 1, MOST
    };

    private static final Checks checks = new Checks();

    public static void main(String[] args) {
        whatItTakesGoesFirst();
        xComes();
        leafComes();
        leafBecomes();
        onceMore();
        itGoes();
        changePlaces();
        calculationsThatDoNotFit();
        calculationsByZero();
        comparisons();
        calculationsWithNoNumbers();
        jump();
        jumpIfZero();
        newRow();
        newRowWhereOneWas();
        manyRows();
        elementComes();
        elementBecomes();
        howManyElements();
        nothingComes();
        copyRanges();
        copyAsIfTakenFirst();
        copyRefused();
        aTry();
        latestHandlerGoes();
        ownFailure();
        aReturn();
        anEvent();
        tooFewValues();
        aThirteenthValue();
        noSuchCode();
        checks.end();
    }

    /** A step that fails: by what, and that of as many values as there were those that it takes are gone. */
    private static void refused(String what, int failure, int had, int takes, int[] ahead, int code, int x) {
        checks.leaves(what, new CallWalker(), failure, had - takes, ahead, code, x);
    }

    private static int[] steps(int... steps) {
        return steps;
    }

    private static void whatItTakesGoesFirst() {
        checks.sentence("what it takes goes from THE PILE first, the uppermost first");
        checks.gives("the uppermost is b", 5, 20, PUT, 15, SUBTRACT, 0, RETURN, 0);
        refused("nothing comes back by a failure", ZERO, 3, 2, steps(PUT, 5, PUT, 0), DIVIDE, 0);
        refused("all five are gone by a failure", CAST, 6, 5, Checks.often(5, PUT, 0), COPY, 0);
    }

    private static void xComes() {
        checks.sentence("0 x comes.");
        for (int x : new int[] {MIN, MIN + 1, -1, 0, 1, MAX - 1, MAX}) {
            checks.gives("x " + x, x, 9, PUT, x, RETURN, 0);
        }
    }

    private static void leafComes() {
        checks.sentence("1 LEAF x comes (CODE: x is not 0 .. 7).");
        for (int k = 0; k < 8; k++) {
            checks.gives("leaf " + k, 100 + k, 100 + k, SET, k, LEAF, k, RETURN, 0);
            checks.gives("another leaf", 0, 100 + k, SET, k, LEAF, (k + 1) % 8, RETURN, 0);
        }
        for (int x : NO_LEAVES) {
            refused("leaf " + x, CODE, 1, 0, steps(), LEAF, x);
        }
    }

    private static void leafBecomes() {
        checks.sentence("2 a NUMBER goes: LEAF x becomes that (CODE; CAST).");
        for (int x : NO_LEAVES) {
            refused("leaf " + x, CODE, 1, 1, steps(), SET, x);
            for (int[] value : NO_NUMBERS) {
                refused("leaf " + x + ", CODE ahead of CAST", CODE, 2, 1, value, SET, x);
            }
        }
        for (int[] value : NO_NUMBERS) {
            for (int k = 0; k < 8; k += 7) {
                refused("no NUMBER", CAST, 2, 1, value, SET, k);
            }
            checks.gives("what was refused changes nothing", 6, 6,
                Checks.join(steps(SET, 7, TRY, 4 + value.length / 2 - 1), value, steps(SET, 7, LEAF, 7, RETURN, 0)));
        }
    }

    private static void onceMore() {
        checks.sentence("3 the uppermost comes once more.");
        refused("of none", PILE, 0, 0, steps(DROP, 0), AGAIN, 0);
        checks.gives("a 12th", 4, 0, Checks.join(Checks.often(10, PUT, 4), steps(AGAIN, 0, RETURN, 0)));
        checks.fails("a 13th", PILE, 0, Checks.join(Checks.often(11, PUT, 4), steps(AGAIN, 0)));
        for (int[] value : NO_NUMBERS) {
            refused("no NUMBER comes, either", CAST, 3, 1, Checks.join(value, steps(AGAIN, 0)), RETURN, 0);
        }
    }

    private static void itGoes() {
        checks.sentence("4 it goes.");
        refused("of none", PILE, 0, 0, steps(DROP, 0), DROP, 0);
        checks.gives("the only one", 0, 0, DROP, 0);
        checks.gives("the 12th", 7, 7, Checks.join(Checks.often(11, PUT, 4), Checks.often(11, DROP, 0),
            steps(RETURN, 0)));
        for (int[] value : NO_NUMBERS) {
            checks.gives("no NUMBER", 7, 7, Checks.join(value, steps(DROP, 0, RETURN, 0)));
        }
    }

    private static void changePlaces() {
        checks.sentence("5 the two uppermost change places.");
        refused("of none", PILE, 0, 0, steps(DROP, 0), SWAP, 0);
        refused("of one", PILE, 1, 0, steps(), SWAP, 0);
        checks.gives("of two", 8 - 5, 5, PUT, 8, SWAP, 0, SUBTRACT, 0, RETURN, 0);
        checks.gives("of 12", 2, 5, Checks.join(Checks.often(9, PUT, 1), steps(PUT, 2, PUT, 3, SWAP, 0, RETURN, 0)));
        for (int[] value : NO_NUMBERS) {
            checks.gives("no NUMBER below", 5, 5, Checks.join(value, steps(SWAP, 0, RETURN, 0)));
        }
    }

    /** An object whose leaves 0 and 1 are these, and whose behaviour 0 calculates with them. */
    private static CallWalker calculating(long a, long b, int code) {
        CallWalker w = Checks.with(LEAF, 0, LEAF, 1, code, 0, RETURN, 0);
        Checks.write(w, 0, 1, SET, 0);
        Checks.write(w, 0, 2, SET, 1);
        w.run(0, 1, a, 1);
        w.run(0, 2, b, 1);
        return w;
    }

    private static void calculated(long a, long b, int code, BigInteger due) {
        CallWalker w = calculating(a, b, code);
        String what = code + " of " + a + " and " + b;
        boolean fits = due.bitLength() <= 63;
        checks.same(what, w.run(0, 0, 0, 4), fits ? 0 : OVER);
        checks.same(what + ": given", w.given(), fits ? due.longValue() : 0);
    }

    private static void calculationsThatDoNotFit() {
        checks.sentence("6 b, a go: a + b comes, 7 a - b, 8 a * b: OVER if that does not fit");
        for (long a : NUMBERS) {
            for (long b : NUMBERS) {
                BigInteger wideA = BigInteger.valueOf(a);
                BigInteger wideB = BigInteger.valueOf(b);
                calculated(a, b, ADD, wideA.add(wideB));
                calculated(a, b, SUBTRACT, wideA.subtract(wideB));
                calculated(a, b, MULTIPLY, wideA.multiply(wideB));
            }
        }
        for (int code = ADD; code <= MULTIPLY; code++) {
            // the most and the most, the least and the most, by their leaves
            CallWalker w = calculating(code == SUBTRACT ? LEAST : MOST, MOST, code);
            Checks.write(w, 0, 3, TRY, 4, LEAF, 0, LEAF, 1, code, 0, SET, 2, DROP, 0, DROP, 0);
            checks.same("both are gone: nothing is there behind the argument", w.run(0, 3, 0, 99), PILE);
            checks.same("both are gone", w.told(1), 2);
        }
    }

    private static void calculationsByZero() {
        checks.sentence("9 a by b, towards 0, 10 what is left over: ZERO");
        for (long a : NUMBERS) {
            for (long b : NUMBERS) {
                CallWalker by = calculating(a, b, DIVIDE);
                CallWalker rest = calculating(a, b, REST);
                String what = a + " by " + b;
                checks.same(what, by.run(0, 0, 0, 4), b == 0 ? ZERO : 0);
                checks.same(what + ", rest", rest.run(0, 0, 0, 4), b == 0 ? ZERO : 0);
                if (b != 0) {
                    BigInteger[] due = BigInteger.valueOf(a).divideAndRemainder(BigInteger.valueOf(b));
                    // longValue() wraps, which the least by -1 needs
                    checks.same(what + ": given", by.given(), due[0].longValue());
                    checks.same(what + ", rest: given", rest.given(), due[1].longValue());
                }
            }
        }
        checks.gives("-7 by 2", -3, -7, PUT, 2, DIVIDE, 0, RETURN, 0);
        checks.gives("-7 by 2, rest", -1, -7, PUT, 2, REST, 0, RETURN, 0);
        checks.gives("7 by -2, rest", 1, 7, PUT, -2, REST, 0, RETURN, 0);
        refused("0 by 0", ZERO, 3, 2, steps(PUT, 0, PUT, 0), DIVIDE, 0);
        refused("0 by 0, rest", ZERO, 3, 2, steps(PUT, 0, PUT, 0), REST, 0);
    }

    private static void comparisons() {
        checks.sentence("11 1 if a is below b, else 0; 12 1 if they are like, else 0.");
        for (int i = 0; i < NUMBERS.length; i++) {
            for (int j = 0; j < NUMBERS.length; j++) {
                // NUMBERS rise, so their places tell
                CallWalker below = calculating(NUMBERS[i], NUMBERS[j], BELOW);
                CallWalker like = calculating(NUMBERS[i], NUMBERS[j], LIKE);
                String what = NUMBERS[i] + " and " + NUMBERS[j];
                checks.same(what + ": below", below.run(0, 0, 0, 4), 0);
                checks.same(what + ": below", below.given(), i < j ? 1 : 0);
                checks.same(what + ": like", like.run(0, 0, 0, 4), 0);
                checks.same(what + ": like", like.given(), i == j ? 1 : 0);
            }
        }
    }

    private static void calculationsWithNoNumbers() {
        checks.sentence("(CAST: one is no NUMBER; b first.)");
        for (int code = ADD; code <= LIKE; code++) {
            for (int[] value : NO_NUMBERS) {
                String what = code + " with " + value[0];
                refused(what + " as b", CAST, 2, 2, value, code, 0);
                refused(what + " as a, CAST ahead of ZERO", CAST, 3, 2, Checks.join(value, steps(PUT, 0)), code, 0);
                refused(what + " as both", CAST, 3, 2, Checks.join(value, value), code, 0);
                refused(what + " as the same", CAST, 3, 2, Checks.join(value, steps(AGAIN, 0)), code, 0);
            }
        }
    }

    private static void jump() {
        checks.sentence("13 the next STEP is the one with number x "
            + "(CODE: x is not 0 .. how many there are; that number is the end).");
        checks.gives("the end of one", 0, 5, JUMP, 1);
        checks.gives("the last", 5, 5, JUMP, 2, FAIL, 0, RETURN, 0);
        checks.gives("the end", 0, 5, JUMP, 3, FAIL, 0, RETURN, 0);
        checks.fails("behind the end", CODE, 5, JUMP, 4, FAIL, 0, RETURN, 0);
        checks.fails("behind the end of one", CODE, 5, JUMP, 2);
        CallWalker w = Checks.with(JUMP, 0);
        checks.same("itself, until none is left", w.run(0, 0, 0, 600), LIMIT);
        int[] full = Checks.often(24, FAIL, 0);
        full[0] = JUMP;
        full[1] = 24;
        checks.gives("the end of 24", 0, 5, full);
        full[1] = 25;
        checks.fails("behind the end of 24", CODE, 5, full);
        for (int x : new int[] {MIN, -1, 25, MAX}) {
            refused("x " + x, CODE, 1, 0, steps(), JUMP, x);
        }
        // a place that was there before the behaviour was emptied is none
        w = Checks.with(Checks.often(3, FAIL, 0));
        Checks.write(w, 0, 0, JUMP, 2);
        checks.same("a place that was there", w.run(0, 0, 0, 9), CODE);
    }

    private static void jumpIfZero() {
        checks.sentence("14 likewise, if the NUMBER that goes is 0, else the next one (CAST ahead of CODE).");
        for (long number : new long[] {LEAST, -(1L << 32), -1, 1, 1L << 32, MOST}) {
            checks.fails("the next one with " + number, OWN, number, JUMP_IF_ZERO, 2, FAIL, 0);
            checks.fails("CODE with " + number, CODE, number, JUMP_IF_ZERO, 3, FAIL, 0);
            checks.fails("CODE with " + number, CODE, number, JUMP_IF_ZERO, -1, FAIL, 0);
        }
        checks.gives("the end with 0", 0, 0, JUMP_IF_ZERO, 2, FAIL, 0);
        checks.fails("behind the end with 0", CODE, 0, JUMP_IF_ZERO, 3, FAIL, 0);
        checks.gives("the end as the next one", 0, 1, JUMP_IF_ZERO, 0);
        int[] full = Checks.often(24, FAIL, 0);
        full[0] = JUMP_IF_ZERO;
        full[1] = 24;
        checks.gives("the end of 24", 0, 0, full);
        full[1] = 25;
        checks.fails("behind the end of 24", CODE, 0, full);
        refused("of none, PILE ahead of CODE", PILE, 0, 0, steps(DROP, 0), JUMP_IF_ZERO, -1);
        for (int x : new int[] {MIN, -1, 25, MAX}) {
            refused("x " + x + " with 0", CODE, 2, 1, steps(PUT, 0), JUMP_IF_ZERO, x);
            refused("x " + x + " with 1", CODE, 2, 1, steps(PUT, 1), JUMP_IF_ZERO, x);
            for (int[] value : NO_NUMBERS) {
                refused("x " + x + ", CAST ahead of CODE", CAST, 2, 1, value, JUMP_IF_ZERO, x);
            }
        }
        for (int[] value : NO_NUMBERS) {
            refused("CAST", CAST, 2, 1, value, JUMP_IF_ZERO, 0);
        }
    }

    private static void newRow() {
        checks.sentence("15 n goes: a ROW of n longs, 16 of n ints, 0 all, comes "
            + "(CAST; SIZE: n is below 0; OVER: n is above 16).");
        for (int kind = 0; kind <= 1; kind++) {
            int make = NEW_LONGS + kind;
            for (long n : new long[] {0, 1, 15, 16}) {
                checks.gives("of " + n, n, n, make, 0, LENGTH, 0, RETURN, 0);
            }
            for (int place = 0; place < 16; place++) {
                checks.gives("0 all", 0, 16, make, 0, PUT, place, GET_LONG + kind, 0, RETURN, 0);
            }
            for (long n : new long[] {-1, -16, MIN, -(1L << 32), LEAST}) {
                checks.fails("of " + n, SIZE, n, make, 0);
            }
            for (long n : new long[] {17, MAX, 1L << 32, (1L << 32) + 1, MOST}) {
                checks.fails("of " + n, OVER, n, make, 0);
            }
            refused("SIZE takes n", SIZE, 2, 1, steps(PUT, -1), make, 0);
            refused("OVER takes n", OVER, 2, 1, steps(PUT, 17), make, 0);
            for (int[] value : NO_NUMBERS) {
                refused("no NUMBER", CAST, 2, 1, value, make, 0);
            }
            checks.gives("a 12th value", 0, 3, Checks.join(Checks.often(11, PUT, 16), steps(make, 0)));
        }
    }

    private static void newRowWhereOneWas() {
        checks.sentence("15 a ROW of n longs, 16 of n ints, 0 all, comes (where another one was)");
        for (int kind = 0; kind <= 1; kind++) {
            for (int place = 0; place < 16; place++) {
                int[] used = steps(PUT, 16, NEW_LONGS, 0, AGAIN, 0, PUT, place, PUT, 7, SET_LONG, 0, DROP, 0);
                int[] anew = steps(PUT, 16, NEW_LONGS + kind, 0, PUT, place, GET_LONG + kind, 0, RETURN, 0);
                checks.gives("in the same call", 0, 0, Checks.join(used, anew));
                CallWalker w = Checks.with(PUT, 0, PUT, 9, PUT, 0, CALL, 8, PUT, 0, PUT, 9, PUT, 0, CALL, 9, RETURN, 0);
                Checks.write(w, 1, 0, used);
                Checks.write(w, 1, 1, anew);
                checks.same("in another call", w.run(0, 0, 0, 99), 0);
                checks.same("in another call", w.given(), 0);
                w.run(1, 0, 0, 99);
                checks.same("in another run", w.run(1, 1, 0, 99), 0);
                checks.same("in another run", w.given(), 0);
            }
        }
    }

    private static void manyRows() {
        checks.sentence("15 a ROW .. comes (as many as THE PILE has room for, none of them another)");
        for (int kind = 0; kind <= 1; kind++) {
            // 12 rows, of 1 .. 12 elements; then how many each of them has, from above
            CallWalker w = Checks.with(DROP, 0, TRY, 20, LEAF, 0, PUT, 1, ADD, 0, AGAIN, 0, SET, 0,
                NEW_LONGS + kind, 0, LEAF, 0, PUT, 10, BELOW, 0, JUMP_IF_ZERO, 13, JUMP, 2,
                PUT, 11, NEW_LONGS + kind, 0, PUT, 12, NEW_LONGS + kind, 0, LENGTH, 0, EVENT, 0, JUMP, 17);
            checks.same("12 rows", w.run(0, 0, 0, 600), 0);
            checks.same("12 rows", w.events(), 12);
            for (int i = 0; i < w.events(); i++) {
                checks.same("12 rows: " + i, w.value(i), 12 - i);
            }
            // a row of 16, and one with a 7; the first goes, and a new one of 16 comes, and changes no other
            checks.gives("where one was, beside another", 7, 16, NEW_LONGS + kind, 0, PUT, 1, NEW_LONGS + kind, 0,
                AGAIN, 0, PUT, 0, PUT, 7, SET_LONG + kind, 0, SWAP, 0, DROP, 0, PUT, 16, NEW_LONGS + kind, 0, DROP, 0,
                PUT, 0, GET_LONG + kind, 0, RETURN, 0);
            // 9 rows of 16, as three more values are needed to change an element; then each one's last, from above
            w = Checks.with(DROP, 0, TRY, 20, LEAF, 0, PUT, 1, ADD, 0, SET, 0, PUT, 16, NEW_LONGS + kind, 0, AGAIN, 0,
                PUT, 15, LEAF, 0, SET_LONG + kind, 0, LEAF, 0, PUT, 9, LIKE, 0, JUMP_IF_ZERO, 2,
                PUT, 15, GET_LONG + kind, 0, EVENT, 0, JUMP, 16);
            checks.same("9 rows", w.run(0, 0, 0, 600), 0);
            checks.same("9 rows", w.events(), 9);
            for (int i = 0; i < w.events(); i++) {
                checks.same("9 rows: " + i, w.value(i), 9 - i);
            }
        }
    }

    private static void elementComes() {
        checks.sentence("17 i, a ROW go: element i comes (of longs; 18 of ints): "
            + "CAST: i is no NUMBER; NULL: NOTHING; CAST: no ROW of these; INDEX.");
        for (int kind = 0; kind <= 1; kind++) {
            int make = NEW_LONGS + kind;
            int other = NEW_INTS - kind;
            int get = GET_LONG + kind;
            for (int length : new int[] {1, 2, 15, 16}) {
                checks.gives("the first of " + length, 0, length, make, 0, PUT, 0, get, 0, RETURN, 0);
                checks.gives("the last of " + length, 0, length, make, 0, PUT, length - 1, get, 0, RETURN, 0);
                checks.fails("behind the last of " + length, INDEX, length, make, 0, PUT, length, get, 0);
                checks.fails("ahead of the first of " + length, INDEX, length, make, 0, PUT, -1, get, 0);
            }
            checks.fails("of an empty one", INDEX, 0, make, 0, PUT, 0, get, 0);
            for (long i : new long[] {LEAST, -(1L << 32), MIN, MAX, 1L << 32, (1L << 32) + 1, MOST}) {
                checks.fails("element " + i, INDEX, i, SET, 0, PUT, 3, make, 0, LEAF, 0, get, 0);
            }
            refused("INDEX takes both", INDEX, 3, 2, steps(PUT, 3, make, 0, PUT, 3), get, 0);
            refused("NULL ahead of INDEX", NULL, 3, 2, steps(NOTHING, 0, PUT, -1), get, 0);
            refused("a NUMBER", CAST, 3, 2, steps(PUT, 3, PUT, 0), get, 0);
            refused("the other kind, ahead of INDEX", CAST, 3, 2, steps(PUT, 3, other, 0, PUT, 3), get, 0);
            for (int[] i : NO_NUMBERS) {
                refused("i is no NUMBER", CAST, 3, 2, Checks.join(steps(PUT, 3, make, 0), i), get, 0);
                refused("i is no NUMBER, ahead of NULL", CAST, 3, 2, Checks.join(steps(NOTHING, 0), i), get, 0);
            }
        }
    }

    private static void elementBecomes() {
        checks.sentence("19 v, i, a ROW go: element i becomes v (of longs; 20 of ints: the lowest 32 bits): "
            + "CAST: v, i; NULL; CAST; INDEX.");
        for (long v : NUMBERS) {
            checks.gives("of longs " + v, v, v, SET, 0, PUT, 16, NEW_LONGS, 0, AGAIN, 0, PUT, 15, LEAF, 0,
                SET_LONG, 0, PUT, 15, GET_LONG, 0, RETURN, 0);
            checks.gives("of ints " + v, (int) v, v, SET, 0, PUT, 16, NEW_INTS, 0, AGAIN, 0, PUT, 0, LEAF, 0,
                SET_INT, 0, PUT, 0, GET_INT, 0, RETURN, 0);
        }
        checks.gives("of ints: 2 147 483 648 wraps", MIN, 1L << 31, SET, 0, PUT, 1, NEW_INTS, 0, AGAIN, 0, PUT, 0,
            LEAF, 0, SET_INT, 0, PUT, 0, GET_INT, 0, RETURN, 0);
        for (int kind = 0; kind <= 1; kind++) {
            int make = NEW_LONGS + kind;
            int other = NEW_INTS - kind;
            int set = SET_LONG + kind;
            for (int length : new int[] {0, 1, 16}) {
                for (int i : new int[] {MIN, -1, length, MAX}) {
                    checks.fails(i + " of " + length, INDEX, length, make, 0, PUT, i, PUT, 7, set, 0);
                }
            }
            for (long i : new long[] {LEAST, -(1L << 32), 1L << 32, MOST}) {
                checks.fails("element " + i, INDEX, i, SET, 0, PUT, 3, make, 0, LEAF, 0, PUT, 7, set, 0);
            }
            refused("INDEX takes all three", INDEX, 4, 3, steps(PUT, 3, make, 0, PUT, 3, PUT, 7), set, 0);
            refused("NULL ahead of INDEX", NULL, 4, 3, steps(NOTHING, 0, PUT, -1, PUT, 7), set, 0);
            refused("a NUMBER", CAST, 4, 3, steps(PUT, 3, PUT, 0, PUT, 7), set, 0);
            refused("the other kind, ahead of INDEX", CAST, 4, 3, steps(PUT, 3, other, 0, PUT, 3, PUT, 7), set, 0);
            for (int[] none : NO_NUMBERS) {
                refused("v", CAST, 4, 3, Checks.join(steps(PUT, 3, make, 0, PUT, 0), none), set, 0);
                refused("v, ahead of NULL", CAST, 4, 3, Checks.join(steps(NOTHING, 0, PUT, 0), none), set, 0);
                refused("i", CAST, 4, 3, Checks.join(steps(PUT, 3, make, 0), none, steps(PUT, 7)), set, 0);
                refused("i, ahead of NULL", CAST, 4, 3, Checks.join(steps(NOTHING, 0), none, steps(PUT, 7)), set, 0);
            }
            checks.gives("of no other row", 0, 2, make, 0, PUT, 2, make, 0, PUT, 1, PUT, 7, set, 0,
                PUT, 1, set - 2, 0, RETURN, 0);
            // element 1 is 7; a step of v = 9 on element 2 is refused, and no element is changed by it
            for (int place = 0; place <= 1; place++) {
                checks.gives("what was refused changes nothing", 7 * place, 2, make, 0, TRY, 10, AGAIN, 0, PUT, 1,
                    PUT, 7, set, 0, AGAIN, 0, PUT, 2, PUT, 9, set, 0, DROP, 0, PUT, place, set - 2, 0, RETURN, 0);
            }
        }
    }

    private static void howManyElements() {
        checks.sentence("21 a ROW goes: how many elements it has comes (NULL; CAST).");
        for (int make = NEW_LONGS; make <= NEW_INTS; make++) {
            for (int length : new int[] {0, 1, 15, 16}) {
                checks.gives("of " + length, length, length, make, 0, LENGTH, 0, RETURN, 0);
            }
        }
        checks.gives("of the uppermost", 3, 2, NEW_LONGS, 0, PUT, 3, NEW_LONGS, 0, PUT, 0, DROP, 0,
            LENGTH, 0, RETURN, 0);
        refused("NOTHING", NULL, 2, 1, steps(NOTHING, 0), LENGTH, 0);
        refused("a NUMBER", CAST, 2, 1, steps(PUT, 0), LENGTH, 0);
        refused("of none", PILE, 0, 0, steps(DROP, 0), LENGTH, 0);
    }

    private static void nothingComes() {
        checks.sentence("22 NOTHING comes.");
        refused("it is NOTHING", NULL, 2, 1, steps(NOTHING, 0), LENGTH, 0);
        checks.gives("a 12th", 0, 0, Checks.often(11, NOTHING, 0));
        checks.fails("a 13th", PILE, 0, Checks.often(12, NOTHING, 0));
    }

    /** Of two rows of these lengths: n elements of the one from i on over those of the other from j on. */
    private static void copyRange(int from, long i, int to, long j, long n) {
        boolean fits = n >= 0 && i >= 0 && j >= 0 && i <= from && j <= to && n <= from - i && n <= to - j;
        for (int kind = 0; kind <= 1; kind++) {
            // the numbers may be too wide for a step's x, so they stand in leaves 1 .. 3
            CallWalker w = Checks.with(PUT, from, NEW_LONGS + kind, 0, LEAF, 1, PUT, to, NEW_LONGS + kind, 0,
                LEAF, 2, LEAF, 3, COPY, 0);
            long[] numbers = {0, i, j, n};
            for (int k = 1; k <= 3; k++) {
                Checks.write(w, 0, k, SET, k);
                w.run(0, k, numbers[k], 1);
            }
            String what = n + " from " + i + " of " + from + " to " + j + " of " + to;
            checks.same(what, w.run(0, 0, 0, 99), fits ? 0 : INDEX);
        }
    }

    private static void copyRanges() {
        checks.sentence("23 n, j, b, i, a go: n elements of ROW a from i on come over those of b from j on (INDEX)");
        long[] edges = {LEAST, -(1L << 32), -1, 0, 1, 2, 3, 4, 5, 1L << 32, MOST - 1, MOST};
        for (long i : edges) {
            for (long j : edges) {
                for (long n : edges) {
                    copyRange(4, i, 3, j, n);
                }
            }
        }
        for (int length : new int[] {0, 1, 16}) {
            copyRange(length, 0, length, 0, length);
            copyRange(length, 0, length, 0, length + 1);
            copyRange(length, length, length, 0, 0);
            copyRange(length, 0, length, length, 0);
            copyRange(length, length + 1, length, 0, 0);
            copyRange(length, 0, length, length + 1, 0);
        }
        // b, b, a with a 4 in it; then b, a, i, b, j, n
        checks.gives("of a, and not of what is below", 4, 1, NEW_LONGS, 0, AGAIN, 0, PUT, 1, NEW_LONGS, 0,
            AGAIN, 0, PUT, 0, PUT, 4, SET_LONG, 0, SWAP, 0, PUT, 0, SWAP, 0, PUT, 0, PUT, 1, COPY, 0,
            PUT, 0, GET_LONG, 0, RETURN, 0);
        refused("INDEX takes all five", INDEX, 6, 5,
            steps(PUT, 2, NEW_LONGS, 0, PUT, 0, PUT, 2, NEW_LONGS, 0, PUT, 0, PUT, 3), COPY, 0);
    }

    /** The row 1 2 3 4, of which n elements from i on came over those from j on. */
    private static void copyWithin(int kind, int i, int j, int n, int... due) {
        int set = SET_LONG + kind;
        CallWalker w = Checks.with(DROP, 0, PUT, 0, PUT, 99, PUT, 4, NEW_LONGS + kind, 0,
            AGAIN, 0, PUT, 0, PUT, 1, set, 0, AGAIN, 0, PUT, 1, PUT, 2, set, 0,
            AGAIN, 0, PUT, 2, PUT, 3, set, 0, CALL, 1);
        // the row goes on as a copy: one behaviour has no room for all of it
        Checks.write(w, 0, 1, AGAIN, 0, PUT, 3, PUT, 4, set, 0, AGAIN, 0, AGAIN, 0, PUT, i, SWAP, 0, PUT, j, PUT, n,
            TRY, 12, COPY, 0, UNTRY, 0, PUT, 0, SWAP, 0, PUT, 99, SWAP, 0, CALL, 2);
        int get = GET_LONG + kind;
        Checks.write(w, 0, 2, AGAIN, 0, PUT, 0, get, 0, EVENT, 0, AGAIN, 0, PUT, 1, get, 0, EVENT, 0,
            AGAIN, 0, PUT, 2, get, 0, EVENT, 0, AGAIN, 0, PUT, 3, get, 0, EVENT, 0);
        checks.same("run", w.run(0, 0, 0, 600), 0);
        checks.same("events", w.events(), 4);
        for (int k = 0; k < 4 && k < w.events(); k++) {
            checks.same(n + " from " + i + " to " + j + ": element " + k, w.value(k), due[k]);
        }
    }

    private static void copyAsIfTakenFirst() {
        checks.sentence("23 as if they were taken first");
        for (int kind = 0; kind <= 1; kind++) {
            copyWithin(kind, 0, 1, 3, 1, 1, 2, 3);
            copyWithin(kind, 1, 0, 3, 2, 3, 4, 4);
            copyWithin(kind, 0, 2, 2, 1, 2, 1, 2);
            copyWithin(kind, 2, 1, 2, 1, 3, 4, 4);
            copyWithin(kind, 0, 0, 4, 1, 2, 3, 4);
            copyWithin(kind, 0, 3, 1, 1, 2, 3, 1);
            copyWithin(kind, 4, 4, 0, 1, 2, 3, 4);
        }
    }

    private static void copyRefused() {
        checks.sentence("23 (CAST: n, j, i are no NUMBERS; NULL; "
            + "CAST: a, b are not both of longs, or both of ints; INDEX)");
        int[] number = {PUT, 9};
        int[] nothing = {NOTHING, 0};
        int[] longs = {PUT, 2, NEW_LONGS, 0};
        int[] ints = {PUT, 2, NEW_INTS, 0};
        for (int[] none : NO_NUMBERS) {
            refused("n, ahead of NULL", CAST, 6, 5, Checks.join(nothing, number, nothing, number, none), COPY, 0);
            refused("j, ahead of NULL", CAST, 6, 5, Checks.join(nothing, number, nothing, none, number), COPY, 0);
            refused("i, ahead of NULL", CAST, 6, 5, Checks.join(nothing, none, nothing, number, number), COPY, 0);
        }
        for (int[] value : new int[][] {number, nothing, longs, ints}) {
            refused("a is NOTHING, ahead of the other CAST", NULL, 6, 5,
                Checks.join(nothing, number, value, number, number), COPY, 0);
            refused("b is NOTHING, ahead of the other CAST", NULL, 6, 5,
                Checks.join(value, number, nothing, number, number), COPY, 0);
        }
        int[][][] unlike = {{longs, ints}, {ints, longs}, {number, longs}, {longs, number}, {number, ints},
            {ints, number}, {number, number}};
        for (int[][] pair : unlike) {
            refused("unlike, ahead of INDEX", CAST, 6, 5,
                Checks.join(pair[0], number, pair[1], number, number), COPY, 0);
        }
        // the row 7 0, both elements of which should come over it from 1 on: only one would fit, and none comes
        for (int kind = 0; kind <= 1; kind++) {
            checks.gives("what was refused changes nothing", 0, 2, NEW_LONGS + kind, 0,
                AGAIN, 0, PUT, 0, PUT, 7, SET_LONG + kind, 0, AGAIN, 0, AGAIN, 0, PUT, 0, SWAP, 0, PUT, 1, PUT, 2,
                TRY, 13, COPY, 0, DROP, 0, PUT, 1, GET_LONG + kind, 0, RETURN, 0);
        }
    }

    private static void aTry() {
        checks.sentence("24 a TRY: a HANDLER, STEP x (CODE as 13; PILE: there are 4, or 12 VALUES).");
        checks.gives("the end", 0, 5, TRY, 1);
        checks.fails("behind the end", CODE, 5, TRY, 2);
        for (int x : new int[] {MIN, -1, 25, MAX}) {
            refused("x " + x, CODE, 1, 0, steps(), TRY, x);
            checks.gives("x " + x + ", CODE ahead of PILE by 4", CODE, 5,
                Checks.join(Checks.often(4, TRY, 5), steps(TRY, x, RETURN, 0)));
            checks.fails("x " + x + ", CODE ahead of PILE by 12", CODE, 5,
                Checks.join(Checks.often(11, PUT, 0), steps(TRY, x)));
        }
        checks.gives("a 4th", 0, 5, Checks.often(4, TRY, 0));
        checks.gives("a 5th", PILE, 5, Checks.join(Checks.often(5, TRY, 5), steps(RETURN, 0)));
        checks.gives("with none", 0, 5, DROP, 0, TRY, 0);
        checks.gives("with 11", 0, 5, Checks.join(Checks.often(10, PUT, 0), steps(TRY, 0)));
        checks.fails("with 12", PILE, 5, Checks.join(Checks.often(11, PUT, 0), steps(TRY, 0)));
        int[] full = Checks.often(24, FAIL, 0);
        full[0] = TRY;
        full[1] = 24;
        checks.gives("the end of 24", 0, 5, full);
        full[1] = 25;
        checks.fails("behind the end of 24", CODE, 5, full);
    }

    private static void latestHandlerGoes() {
        checks.sentence("25 the latest HANDLER goes (PILE: there is none).");
        checks.fails("none", PILE, 5, UNTRY, 0);
        checks.fails("none any more", PILE, 5, TRY, 0, UNTRY, 0, UNTRY, 0);
        checks.fails("4 and no 5th", PILE, 5, Checks.join(Checks.often(4, TRY, 0), Checks.often(5, UNTRY, 0)));
        checks.gives("the latest", 13, 5, TRY, 4, TRY, 5, UNTRY, 0, FAIL, 0, RETURN, 0, FAIL, 7);
        CallWalker w = Checks.with(TRY, 2, FAIL, 0, UNTRY, 0);
        checks.same("the one that was used is gone", w.run(0, 0, 5, 99), PILE);
        checks.same("the one that was used is gone", w.told(1), 2);
        checks.gives("no value goes", 5, 5, TRY, 0, UNTRY, 0, RETURN, 0);
        checks.gives("with 12 values", 0, 5, Checks.join(steps(TRY, 0), Checks.often(11, PUT, 0), steps(UNTRY, 0)));
    }

    private static void ownFailure() {
        checks.sentence("26 OWN: FAILURE 13 + x (CODE: x is not 0 .. 7).");
        for (int x = 0; x <= 7; x++) {
            checks.fails("x " + x, 13 + x, 5, FAIL, x);
        }
        for (int x : new int[] {MIN, -13, -12, -1, 8, 9, MAX - 12, MAX}) {
            checks.fails("x " + x, CODE, 5, FAIL, x);
        }
        refused("no value goes", 20, 1, 0, steps(), FAIL, 7);
        refused("with none", 13, 0, 0, steps(DROP, 0), FAIL, 0);
    }

    private static void aReturn() {
        checks.sentence("27 RETURN: the NUMBER that goes is given (CAST).");
        for (long number : NUMBERS) {
            checks.gives("gives", number, number, RETURN, 0, FAIL, 0);
        }
        refused("of none", PILE, 0, 0, steps(DROP, 0), RETURN, 0);
        for (int[] value : NO_NUMBERS) {
            refused("no NUMBER", CAST, 2, 1, value, RETURN, 0);
        }
        checks.gives("with 12", 3, 5, Checks.join(Checks.often(10, PUT, 1), steps(PUT, 3, RETURN, 0)));
    }

    /** As many events as the argument tells, then these steps. */
    private static int[] eventsAnd(int... behind) {
        return Checks.join(steps(AGAIN, 0, JUMP_IF_ZERO, 7, AGAIN, 0, EVENT, 0, PUT, 1, SUBTRACT, 0, JUMP, 0), behind);
    }

    private static void anEvent() {
        checks.sentence("28 an EVENT of the NUMBER that goes (CAST; PILE: 40 in all).");
        for (long number : NUMBERS) {
            CallWalker w = Checks.with(EVENT, 0);
            w.run(0, 0, number, 1);
            checks.same("number", w.value(0), number);
        }
        refused("of none", PILE, 0, 0, steps(DROP, 0), EVENT, 0);
        for (int[] value : NO_NUMBERS) {
            refused("no NUMBER", CAST, 2, 1, value, EVENT, 0);
            checks.fails("no NUMBER, and no room", CAST, 40, eventsAnd(Checks.join(value, steps(EVENT, 0))));
        }
        checks.gives("a 40th", 0, 39, eventsAnd(PUT, 6, EVENT, 0));
        checks.fails("a 41st", PILE, 40, eventsAnd(PUT, 6, EVENT, 0));
        // behind the 41st, the number of it is gone, and the 40 are there
        CallWalker w = Checks.with(eventsAnd(PUT, 6, TRY, 10, EVENT, 0, ADD, 0, RETURN, 0));
        checks.same("a 41st, with a handler", w.run(0, 0, 40, 600), 0);
        checks.same("a 41st, with a handler: on the 0 that was below", w.given(), PILE);
        checks.same("a 41st, with a handler: events", w.events(), 40);
        checks.same("a 41st, with a handler: the last", w.value(39), 1);
        // 40 of all contracts together; those that are undone are not among them
        Checks.write(w, 0, 0, eventsAnd(PUT, 0, PUT, 9, PUT, 8, CALL, 8));
        Checks.write(w, 1, 0, EVENT, 0);
        checks.same("39 and 1", w.run(0, 0, 39, 600), 0);
        checks.same("39 and 1", w.event(39, 0), 1);
        checks.same("40 and 1", w.run(0, 0, 40, 600), PILE);
        Checks.write(w, 0, 0, eventsAnd(TRY, 12, PUT, 0, PUT, 9, PUT, 8, CALL, 8, EVENT, 0));
        Checks.write(w, 1, 0, EVENT, 0, FAIL, 1);
        checks.same("39, one undone, and 1", w.run(0, 0, 39, 600), 0);
        checks.same("39, one undone, and 1", w.events(), 40);
        checks.same("39, one undone, and 1", w.value(39), 14);
    }

    /** How many values each code takes. */
    private static final int[] TAKES = {
        0, 0, 1, 1, 1, 2, 2, 2, 2, 2, 2, 2, 2, 0, 1, 1, 1, 2, 2, 3, 3, 1, 0, 5, 0, 0, 0, 1, 1, 3, 0, 0
    };

    private static void tooFewValues() {
        checks.sentence("PILE: a STEP that takes more than there are "
            + "(ahead of all else but CODE of a code that is none)");
        for (int code = 0; code < 32; code++) {
            for (int have = 0; have < TAKES[code]; have++) {
                int[] ahead = Checks.join(steps(DROP, 0), Checks.often(have, NOTHING, 0));
                refused(code + " with " + have, PILE, have, 0, ahead, code, 0);
                refused(code + " with " + have + ", ahead of CODE", PILE, have, 0, ahead, code, -1);
            }
        }
    }

    private static void aThirteenthValue() {
        checks.sentence("PILE: or makes a 13th VALUE (ahead of all else but CODE of a code that is none)");
        for (int code : new int[] {PUT, LEAF, AGAIN, NOTHING, BALANCE, CALLER}) {
            checks.gives(code + " with 11", 0, 5, Checks.join(Checks.often(10, PUT, 0), steps(code, 0)));
            checks.fails(code + " with 12", PILE, 5, Checks.join(Checks.often(11, PUT, 0), steps(code, 0)));
            checks.fails(code + " with 12, ahead of CODE", PILE, 5,
                Checks.join(Checks.often(11, PUT, 0), steps(code, -1)));
            checks.gives(code + " with 12: 11 are left, and the number", PILE, 5, Checks.join(Checks.often(10, PUT, 0),
                steps(TRY, 13, PUT, 0, code, 0, RETURN, 0)));
        }
        // those that make no more than they take, with numbers that are good for each; step 12 is the next one
        for (int code : new int[] {SET, DROP, SWAP, ADD, SUBTRACT, MULTIPLY, DIVIDE, REST, BELOW, LIKE, JUMP,
            JUMP_IF_ZERO, NEW_LONGS, NEW_INTS, FAIL, EVENT, CALL}) {
            int x = code == CALL ? 8 : code == JUMP || code == JUMP_IF_ZERO ? 12 : 0;
            checks.fails(code + " is no PILE with 12", OWN, 5, Checks.join(Checks.often(8, PUT, 0),
                steps(PUT, 0, PUT, 1, PUT, 1, code, x, FAIL, 0)));
        }
    }

    private static void noSuchCode() {
        checks.sentence("CODE of a code that is none");
        for (int code : new int[] {MIN, -32, -1, 32, 33, 64, 256, MAX}) {
            refused("code " + code, CODE, 1, 0, steps(), code, 0);
            refused("code " + code + " with none", CODE, 0, 0, steps(DROP, 0), code, 0);
            checks.fails("code " + code + " with 12", CODE, 5, Checks.join(Checks.often(11, PUT, 0), steps(code, 0)));
        }
    }
}
