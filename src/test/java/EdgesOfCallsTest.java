/** CALL, and the steps that ask of a call (codes 29 to 31), at the edges that the document names of each. */
public final class EdgesOfCallsTest implements Names {
    private static final int MIN = Integer.MIN_VALUE, MAX = Integer.MAX_VALUE;
    private static final long LEAST = Long.MIN_VALUE, MOST = Long.MAX_VALUE;

    /** The steps by which a value comes that is no NUMBER. */
    private static final int[][] NO_NUMBERS = {{NOTHING, 0}, {PUT, 2, NEW_LONGS, 0}, {PUT, 2, NEW_INTS, 0}};

    private static final Checks checks = new Checks();

    public static void main(String[] args) {
        takesThree();
        noNumbers();
        funds();
        noSuchBehaviour();
        guarded();
        guardedNoMore();
        tenUnderWay();
        sumGoes();
        sumThatDoesNotFit();
        askedInOrder();
        limitGiven();
        limitOfTheCaller();
        rowAsACopy();
        otherValues();
        whatItGives();
        refusedIsNoCall();
        balanceComes();
        callerComes();
        checks.end();
    }

    private static int[] steps(int... steps) {
        return steps;
    }

    /** A CALL that is refused: by what, and that the three values are gone (two others were below them). */
    private static void refused(String what, CallWalker w, int failure, int x, int[]... values) {
        checks.leaves(what, w, failure, 2, Checks.join(steps(PUT, 5), Checks.join(values)), CALL, x);
        checks.same(what + ": no call", w.told(2), 1);
        checks.same(what + ": none undone", w.told(4), 0);
    }

    /** An object whose contract 0 calls 1 with a sum and a limit, which are its leaves 0 and 1. */
    private static CallWalker calling(long sum, long limit) {
        CallWalker w = Checks.with(LEAF, 0, LEAF, 1, PUT, 0, CALL, 8, RETURN, 0);
        Checks.write(w, 0, 1, SET, 0);
        Checks.write(w, 0, 2, SET, 1);
        w.run(0, 1, sum, 1);
        w.run(0, 2, limit, 1);
        return w;
    }

    private static void takesThree() {
        checks.sentence("29 CALL: a VALUE, a limit, a sum go");
        // the uppermost is the VALUE, then the limit, then the sum
        CallWalker w = Checks.with(PUT, 3, PUT, 2, PUT, 9, CALL, 8, RETURN, 0);
        Checks.write(w, 1, 0, RETURN, 0);
        w.fund(0, 3);
        checks.same("run", w.run(0, 0, 0, 99), 0);
        checks.same("the VALUE", w.given(), 9);
        checks.same("the sum", w.balance(1), 3);
        Checks.write(w, 1, 0, JUMP, 0);
        w.fund(0, 3);
        checks.same("run", w.run(0, 0, 0, 99), LIMIT);
        checks.same("the limit", w.told(0), 4 + 2);
        Checks.write(w, 0, 0, DROP, 0, PUT, 0, PUT, 9, PUT, 0, CALL, 16, DROP, 0, DROP, 0);
        checks.same("only what it gives is there", w.run(0, 0, 0, 99), PILE);
        checks.same("only what it gives is there", w.told(0), 7);
    }

    private static void noNumbers() {
        checks.sentence("29 (CAST: limit, sum are no NUMBERS)");
        for (int[] none : NO_NUMBERS) {
            refused("limit", new CallWalker(), CAST, 8, steps(PUT, 0), none, steps(PUT, 0));
            refused("sum", new CallWalker(), CAST, 8, none, steps(PUT, 9), steps(PUT, 0));
            refused("both", new CallWalker(), CAST, 8, none, none, steps(PUT, 0));
            refused("all three", new CallWalker(), CAST, 8, none, none, none);
            refused("limit, ahead of FUNDS", new CallWalker(), CAST, 8, steps(PUT, -1), none, steps(PUT, 0));
            refused("limit, ahead of CODE", new CallWalker(), CAST, -1, steps(PUT, 0), none, steps(PUT, 0));
        }
    }

    private static void funds() {
        checks.sentence("29 (FUNDS: sum is below 0, or above the BALANCE)");
        for (long balance : new long[] {0, 1, 1L << 32, MOST - 1, MOST}) {
            for (long sum : new long[] {LEAST, -(1L << 32), -1, 0, balance - 1, balance, balance + 1, MOST}) {
                CallWalker w = calling(sum, 9);
                w.fund(0, balance);
                boolean there = sum >= 0 && sum <= balance;
                String what = sum + " of " + balance;
                checks.same(what, w.run(0, 0, 0, 99), there ? 0 : FUNDS);
                checks.same(what + ": what is left", w.balance(0), there ? balance - sum : balance);
                checks.same(what + ": what came", w.balance(1), there ? sum : 0);
            }
        }
        refused("the three are gone", new CallWalker(), FUNDS, 8, steps(PUT, 1), steps(PUT, 9), steps(PUT, 0));
        refused("the three are gone", new CallWalker(), FUNDS, 8, steps(PUT, -1), steps(PUT, 9), steps(PUT, 0));
    }

    private static void noSuchBehaviour() {
        checks.sentence("29 for BEHAVIOUR x % 8 of CONTRACT x / 8 (CODE: none such)");
        for (int x = -16; x < 80; x++) {
            boolean there = x >= 0 && x < 64 && x % 8 < 6;
            CallWalker w = Checks.with(PUT, 0, PUT, 9, PUT, 0, CALL, x, RETURN, 0);
            if (there && x != 0) {
                Checks.write(w, x / 8, x % 8, PUT, 100 + x, RETURN, 0);
            }
            checks.same("x " + x, w.run(0, 0, 0, 99), x == 0 ? LIMIT : there ? 0 : CODE);
            checks.same("x " + x, w.given(), there && x != 0 ? 100 + x : 0);
        }
        for (int x : new int[] {MIN, MIN + 8, -8, -1, 6, 7, 62, 63, 64, 1 << 16, MAX - 7, MAX}) {
            refused("x " + x, new CallWalker(), CODE, x, steps(PUT, 0), steps(PUT, 9), steps(PUT, 0));
        }
    }

    private static void guarded() {
        checks.sentence("29 GUARD: that CONTRACT is GUARDED, and has a CALL under way.");
        for (int contract = 0; contract < 8; contract++) {
            CallWalker w = new CallWalker();
            Checks.write(w, contract, 0, PUT, 0, PUT, 9, PUT, 0, CALL, contract * 8 + 5);
            checks.same("under way, not guarded", w.run(contract, 0, 0, 99), 0);
            w.guard(contract, true);
            checks.same("under way, guarded", w.run(contract, 0, 0, 99), GUARD);
            checks.same("under way, guarded: one call", w.told(2), 1);
            Checks.write(w, (contract + 1) % 8, 0, PUT, 0, PUT, 9, PUT, 0, CALL, contract * 8 + 5);
            checks.same("guarded, not under way", w.run((contract + 1) % 8, 0, 0, 99), 0);
            w.guard(contract, false);
            w.guard((contract + 1) % 8, true);
            checks.same("another is guarded", w.run(contract, 0, 0, 99), 0);
        }
        // 0 calls 1, that calls 2, .. 7, that calls one of them
        for (int back = 0; back < 8; back++) {
            CallWalker w = new CallWalker();
            for (int contract = 0; contract < 8; contract++) {
                int x = contract < 7 ? 8 * (contract + 1) : 8 * back + 1;
                Checks.write(w, contract, 0, PUT, 0, PUT, 99, PUT, 0, CALL, x);
            }
            checks.same("back to " + back + ", not guarded", w.run(0, 0, 0, 99), 0);
            w.guard(back, true);
            checks.same("back to " + back + ", guarded", w.run(0, 0, 0, 99), GUARD);
            checks.same("back to " + back + ", guarded: undone", w.told(4), 8);
        }
        CallWalker w = new CallWalker();
        w.guard(0, true);
        refused("the three are gone", w, GUARD, 1, steps(PUT, 0), steps(PUT, 9), steps(PUT, 0));
    }

    private static void guardedNoMore() {
        checks.sentence("29 GUARD: that CONTRACT .. has a CALL under way (one that ended is not)");
        CallWalker w = Checks.with(PUT, 0, PUT, 9, PUT, 0, CALL, 8, PUT, 0, PUT, 9, PUT, 0, CALL, 8, RETURN, 0);
        Checks.write(w, 1, 0, PUT, 7, RETURN, 0);
        w.guard(1, true);
        checks.same("it ended well", w.run(0, 0, 0, 99), 0);
        checks.same("it ended well", w.given(), 7);
        Checks.write(w, 0, 0, TRY, 5, PUT, 0, PUT, 9, PUT, 0, CALL, 9, PUT, 0, PUT, 9, PUT, 0, CALL, 8, RETURN, 0);
        Checks.write(w, 1, 1, FAIL, 0);
        checks.same("it failed", w.run(0, 0, 0, 99), 0);
        checks.same("it failed", w.given(), 7);
        w.guard(0, true);
        checks.same("an earlier run's is not under way", w.run(0, 0, 0, 99), 0);
    }

    /** Contract 1 calls itself as often as its argument tells, and then takes these steps, from its step 10 on. */
    private static CallWalker deep(int... innermost) {
        CallWalker w = new CallWalker();
        Checks.write(w, 1, 0, Checks.join(steps(AGAIN, 0, JUMP_IF_ZERO, 10, PUT, 1, SUBTRACT, 0, PUT, 0, SWAP, 0,
            PUT, 600, SWAP, 0, CALL, 8, RETURN, 0), innermost));
        return w;
    }

    private static void tenUnderWay() {
        checks.sentence("29 DEEP: 10 are under way.");
        for (int calls = 0; calls <= 8; calls++) {
            CallWalker w = deep(PUT, 0, PUT, 99, PUT, 0, CALL, 0, PUT, 4, RETURN, 0);
            checks.same(calls + 1 + " under way, and one", w.run(1, 0, calls, 600), 0);
            checks.same(calls + 1 + " under way, and one", w.told(2), calls + 2);
            checks.same(calls + 1 + " under way, and one", w.told(3), calls + 2);
            checks.same(calls + 1 + " under way, and one", w.given(), 4);
        }
        CallWalker w = deep(PUT, 0, PUT, 99, PUT, 0, CALL, 0, PUT, 4, RETURN, 0);
        checks.same("10 under way, and one", w.run(1, 0, 9, 600), DEEP);
        checks.same("10 under way, and one: most", w.told(2), 10);
        checks.same("10 under way, and one: undone", w.told(4), 10);
        // the innermost of ten sees it by its own handler, and the three are gone
        w = deep(PUT, 8, PUT, 0, PUT, 99, PUT, 0, TRY, 16, CALL, 0, SUBTRACT, 0, RETURN, 0);
        checks.same("the tenth has a handler", w.run(1, 0, 9, 600), 0);
        checks.same("the tenth has a handler", w.given(), 8 - DEEP);
        checks.same("the tenth has a handler: well", w.told(3), 10);
        // ten one behind the other are not ten under way
        w = Checks.with(PUT, 0, PUT, 9, PUT, 0, CALL, 8, DROP, 0, LEAF, 0, PUT, 1, ADD, 0, AGAIN, 0, SET, 0, PUT, 20,
            LIKE, 0, JUMP_IF_ZERO, 0);
        checks.same("one behind the other", w.run(0, 0, 0, 600), 0);
        checks.same("one behind the other: most", w.told(2), 2);
        checks.same("one behind the other: well", w.told(3), 21);
    }

    private static void sumGoes() {
        checks.sentence("29 Then the sum goes from BALANCE to BALANCE");
        for (long sum : new long[] {0, 1, 1L << 32, MOST}) {
            CallWalker w = calling(sum, 9);
            Checks.write(w, 1, 0, BALANCE, 0, RETURN, 0);
            w.fund(0, sum);
            checks.same("all of " + sum, w.run(0, 0, 0, 99), 0);
            checks.same("all of " + sum + ": it is there in the call", w.given(), sum);
            checks.same("all of " + sum + ": from", w.balance(0), 0);
            checks.same("all of " + sum + ": to", w.balance(1), sum);
            Checks.write(w, 0, 0, LEAF, 0, PUT, 9, PUT, 0, CALL, 3, RETURN, 0);
            Checks.write(w, 0, 3, BALANCE, 0, RETURN, 0);
            w.fund(0, sum);
            checks.same("all of " + sum + " to itself", w.run(0, 0, 0, 99), 0);
            checks.same("all of " + sum + " to itself: in the call", w.given(), sum);
            checks.same("all of " + sum + " to itself: behind it", w.balance(0), sum);
        }
    }

    private static void sumThatDoesNotFit() {
        checks.sentence("29 (OVER)");
        for (long sum : new long[] {0, 1, 2, 1L << 32, MOST - 1, MOST}) {
            for (long room : new long[] {0, 1, 2, 1L << 32, MOST - 1, MOST}) {
                CallWalker w = calling(sum, 9);
                w.fund(0, MOST);
                w.fund(1, MOST - room);
                boolean fits = sum <= room;
                String what = sum + " with room for " + room;
                checks.same(what, w.run(0, 0, 0, 99), fits ? 0 : OVER);
                checks.same(what + ": from", w.balance(0), fits ? MOST - sum : MOST);
                checks.same(what + ": to", w.balance(1), fits ? MOST - room + sum : MOST - room);
                checks.same(what + ": calls", w.told(2), fits ? 2 : 1);
            }
        }
        CallWalker w = new CallWalker();
        w.fund(0, 1);
        w.fund(1, MOST);
        refused("the three are gone", w, OVER, 8, steps(PUT, 1), steps(PUT, 9), steps(PUT, 0));
    }

    private static void askedInOrder() {
        checks.sentence("what is told of it is asked in the order in which it stands (29: CAST, FUNDS, CODE, GUARD, "
            + "DEEP, OVER)");
        refused("CAST ahead of FUNDS", new CallWalker(), CAST, 8, steps(PUT, 1), steps(NOTHING, 0), steps(PUT, 0));
        refused("FUNDS ahead of CODE", new CallWalker(), FUNDS, 6, steps(PUT, 1), steps(PUT, 9), steps(PUT, 0));
        CallWalker w = new CallWalker();
        w.guard(0, true);
        refused("FUNDS ahead of GUARD", w, FUNDS, 1, steps(PUT, 1), steps(PUT, 9), steps(PUT, 0));
        refused("CODE ahead of GUARD", w, CODE, 6, steps(PUT, 0), steps(PUT, 9), steps(PUT, 0));
        w.guard(0, false);
        w.fund(0, 1);
        w.fund(7, MOST);
        refused("CODE ahead of OVER", w, CODE, 62, steps(PUT, 1), steps(PUT, 9), steps(PUT, 0));
        // with ten under way: 1 calls with all that it has (1, or nothing)
        w = deep(PUT, 1, PUT, 99, PUT, 0, CALL, 0);
        checks.same("FUNDS ahead of DEEP", w.run(1, 0, 9, 600), FUNDS);
        w.fund(1, 1);
        checks.same("DEEP", w.run(1, 0, 9, 600), DEEP);
        w.fund(0, MOST);
        checks.same("DEEP ahead of OVER", w.run(1, 0, 9, 600), DEEP);
        checks.same("OVER with nine", w.run(1, 0, 8, 600), OVER);
        w = deep(PUT, 0, PUT, 99, PUT, 0, CALL, 7);
        checks.same("CODE ahead of DEEP", w.run(1, 0, 9, 600), CODE);
        // 0 calls 1, so that both are under way; 0 is guarded, and has no room for 1 more
        w = deep(PUT, 1, PUT, 99, PUT, 0, CALL, 0);
        Checks.write(w, 0, 0, PUT, 0, PUT, 600, PUT, 8, CALL, 8);
        w.fund(1, 1);
        w.fund(0, MOST);
        w.guard(0, true);
        checks.same("GUARD ahead of DEEP", w.run(0, 0, 0, 600), GUARD);
        Checks.write(w, 0, 0, PUT, 0, PUT, 600, PUT, 7, CALL, 8);
        checks.same("GUARD ahead of OVER", w.run(0, 0, 0, 600), GUARD);
        w.guard(0, false);
        checks.same("OVER", w.run(0, 0, 0, 600), OVER);
    }

    private static void limitGiven() {
        checks.sentence("29 its LIMIT is the limit that was given, 0 if that is below 0");
        for (long limit : new long[] {LEAST, -(1L << 32), MIN, -1, 0, 1, 2, 3, 50}) {
            CallWalker w = calling(0, limit);
            Checks.write(w, 1, 0, JUMP, 0);
            checks.same("limit " + limit, w.run(0, 0, 0, 99), LIMIT);
            checks.same("limit " + limit + ": steps", w.told(0), 4 + Math.max(0, limit));
            Checks.write(w, 1, 0, PUT, 6, RETURN, 0);
            checks.same("limit " + limit + " for two", w.run(0, 0, 0, 99), limit < 2 ? LIMIT : 0);
            w.empty(1, 0);
            checks.same("limit " + limit + " for none", w.run(0, 0, 0, 99), 0);
        }
    }

    private static void limitOfTheCaller() {
        checks.sentence("29 and no more than what is left of the caller's");
        // the caller has 10, and has taken 5 with the CALL: 5 are left
        for (long limit : new long[] {4, 5, 6, 600, MAX, 1L << 32, (1L << 32) + 1, MOST}) {
            CallWalker w = calling(0, limit);
            Checks.write(w, 0, 0, TRY, 5, LEAF, 0, LEAF, 1, PUT, 0, CALL, 8, RETURN, 0);
            Checks.write(w, 1, 0, JUMP, 0);
            checks.same("limit " + limit, w.run(0, 0, 0, 10), limit == 4 ? 0 : LIMIT);
            checks.same("limit " + limit + ": steps", w.told(0), 10);
            checks.same("limit " + limit + ": failures", w.told(1), limit == 4 ? 1 : 2);
        }
        CallWalker w = calling(0, 9);
        Checks.write(w, 1, 0, DROP, 0);
        checks.same("none is left, a step", w.run(0, 0, 0, 4), LIMIT);
        checks.same("none is left, a step", w.told(0), 4);
        w.empty(1, 0);
        checks.same("none is left, no steps: well", w.run(0, 0, 0, 4), LIMIT);
        checks.same("none is left, no steps: well", w.told(3), 1);
        // a caller's caller's limit binds, too: 1 has 6 of 0, and gives 600 to 2, which has 2
        w = calling(0, 6);
        Checks.write(w, 1, 0, PUT, 0, PUT, 600, PUT, 0, CALL, 16);
        Checks.write(w, 2, 0, JUMP, 0);
        checks.same("of its caller's caller", w.run(0, 0, 0, 99), LIMIT);
        checks.same("of its caller's caller", w.told(0), 4 + 4 + 2);
    }

    private static void rowAsACopy() {
        checks.sentence("29 a ROW comes as a copy");
        for (int kind = 0; kind <= 1; kind++) {
            int make = NEW_LONGS + kind;
            int get = GET_LONG + kind;
            int set = SET_LONG + kind;
            for (int length : new int[] {0, 1, 15, 16}) {
                CallWalker w = Checks.with(PUT, 0, PUT, 99, PUT, length, make, 0, CALL, 8, RETURN, 0);
                Checks.write(w, 1, 0, LENGTH, 0, RETURN, 0);
                checks.same("of " + length, w.run(0, 0, 0, 99), 0);
                checks.same("of " + length, w.given(), length);
                Checks.write(w, 1, 0, PUT, length, get, 0);
                checks.same("of " + length + ": no more places", w.run(0, 0, 0, 99), INDEX);
            }
            // the last of 16 is 6 here; there it is seen, and becomes 9; and here it is still 6
            CallWalker w = Checks.with(DROP, 0, PUT, 16, make, 0, AGAIN, 0, PUT, 15, PUT, 6, set, 0, AGAIN, 0,
                PUT, 0, SWAP, 0, PUT, 99, SWAP, 0, CALL, 8, SET, 0, PUT, 15, get, 0, RETURN, 0);
            Checks.write(w, 1, 0, AGAIN, 0, PUT, 15, get, 0, SET, 0, AGAIN, 0, PUT, 15, PUT, 9, set, 0, PUT, 15,
                get, 0, RETURN, 0);
            checks.same("run", w.run(0, 0, 0, 99), 0);
            checks.same("as it was here, there", w.leaf(1, 0), 6);
            checks.same("changed there", w.leaf(0, 0), 9);
            checks.same("as it was here", w.given(), 6);
            Checks.write(w, 1, 0, PUT, 0, GET_INT - kind, 0);
            checks.same("its kind is the same", w.run(0, 0, 0, 99), CAST);
        }
        CallWalker w = Checks.with(PUT, 0, PUT, 99, PUT, 1, NEW_LONGS, 0, AGAIN, 0, PUT, 0, PUT, 5, SET_LONG, 0,
            CALL, 8, RETURN, 0);
        Checks.write(w, 1, 0, PUT, 0, GET_LONG, 0, RETURN, 0);
        checks.same("the only element", w.run(0, 0, 0, 99), 0);
        checks.same("the only element", w.given(), 5);
        w = Checks.with(NEW_LONGS, 0, PUT, 0, PUT, 99, PUT, 3, NEW_LONGS, 0, PUT, 0, DROP, 0, CALL, 8, RETURN, 0);
        Checks.write(w, 1, 0, LENGTH, 0, RETURN, 0);
        checks.same("of two the uppermost", w.run(0, 0, 2, 99), 0);
        checks.same("of two the uppermost", w.given(), 3);
        // a row of 1 behind a row of 16 at the same depth: nothing of the longer one is there
        w = Checks.with(PUT, 0, PUT, 99, PUT, 16, NEW_LONGS, 0, AGAIN, 0, PUT, 1, PUT, 5, SET_LONG, 0,
            CALL, 8, DROP, 0, PUT, 0, PUT, 99, PUT, 1, NEW_LONGS, 0, CALL, 9);
        Checks.write(w, 1, 1, PUT, 1, GET_LONG, 0);
        checks.same("a shorter one behind a longer one", w.run(0, 0, 0, 99), INDEX);
        checks.same("a shorter one behind a longer one", w.told(3), 1);
    }

    private static void otherValues() {
        checks.sentence("29 a VALUE .. go (a NUMBER, NOTHING)");
        for (long number : new long[] {LEAST, -1, 0, 1L << 32, MOST}) {
            CallWalker w = Checks.with(SET, 0, PUT, 0, PUT, 9, LEAF, 0, CALL, 8, RETURN, 0);
            Checks.write(w, 1, 0, RETURN, 0);
            checks.same("number " + number, w.run(0, 0, number, 99), 0);
            checks.same("number " + number, w.given(), number);
        }
        CallWalker w = Checks.with(PUT, 0, PUT, 9, NOTHING, 0, CALL, 8);
        Checks.write(w, 1, 0, LENGTH, 0);
        checks.same("NOTHING", w.run(0, 0, 0, 99), NULL);
    }

    private static void whatItGives() {
        checks.sentence("29 What it gives comes.");
        for (long number : new long[] {LEAST, -1, 0, 1L << 32, MOST}) {
            CallWalker w = Checks.with(SET, 0, PUT, 0, PUT, 9, PUT, 0, CALL, 1, RETURN, 0);
            Checks.write(w, 0, 1, LEAF, 0, RETURN, 0);
            checks.same("gives " + number, w.run(0, 0, number, 99), 0);
            checks.same("gives " + number, w.given(), number);
        }
        CallWalker w = Checks.with(Checks.join(Checks.often(8, PUT, 4), steps(PUT, 0, PUT, 9, PUT, 0, CALL, 8, ADD, 0,
            RETURN, 0)));
        Checks.write(w, 1, 0, PUT, 3, RETURN, 0);
        checks.same("on the others, with a full pile", w.run(0, 0, 0, 99), 0);
        checks.same("on the others, with a full pile", w.given(), 7);
    }

    private static void refusedIsNoCall() {
        checks.sentence("29 CAST, FUNDS, CODE, GUARD .. "
            + "Then the sum goes (a CALL that is refused moves none, and is none)");
        int[][] refused = {
            {PUT, 0, NOTHING, 0, PUT, 0, CALL, 8}, {PUT, 11, PUT, 9, PUT, 0, CALL, 8},
            {PUT, 5, PUT, 9, PUT, 0, CALL, 6}, {PUT, 5, PUT, 9, PUT, 0, CALL, 1}, {PUT, 5, PUT, 9, PUT, 0, CALL, 16}
        };
        int[] due = {CAST, FUNDS, CODE, GUARD, OVER};
        for (int i = 0; i < due.length; i++) {
            CallWalker w = Checks.with(Checks.join(steps(PUT, 4, EVENT, 0, PUT, 4, SET, 0, TRY, 9), refused[i],
                steps(RETURN, 0)));
            w.guard(0, true);
            w.fund(0, 10);
            w.fund(2, MOST);
            checks.same("run", w.run(0, 0, 0, 99), 0);
            checks.sameText("all behind it", Checks.read(w), "given " + due[i] + " told 10 1 1 1 0; 10: 4 0 0 0 0 0 0 0"
                + "; 0: 0 0 0 0 0 0 0 0; " + MOST + ": 0 0 0 0 0 0 0 0" + "; 0: 0 0 0 0 0 0 0 0".repeat(5)
                + "; events 0=4");
        }
    }

    private static void balanceComes() {
        checks.sentence("30 its CONTRACT's BALANCE comes");
        for (int contract = 0; contract < 8; contract++) {
            CallWalker w = new CallWalker();
            for (int other = 0; other < 8; other++) {
                w.fund(other, MOST - other);
            }
            Checks.write(w, contract, 0, BALANCE, 0, RETURN, 0);
            checks.same("of " + contract, w.run(contract, 0, 0, 9), 0);
            checks.same("of " + contract, w.given(), MOST - contract);
            // called by another, it is not the caller's
            int caller = (contract + 1) % 8;
            Checks.write(w, caller, 0, PUT, 0, PUT, 9, PUT, 0, CALL, 8 * contract, RETURN, 0);
            checks.same("of " + contract + ", called", w.run(caller, 0, 0, 9), 0);
            checks.same("of " + contract + ", called", w.given(), MOST - contract);
        }
    }

    private static void callerComes() {
        checks.sentence("31 the number of the CONTRACT that called it (-1: none)");
        for (int caller = 0; caller < 8; caller++) {
            CallWalker w = new CallWalker();
            Checks.write(w, caller, 0, PUT, 0, PUT, 9, PUT, 0, CALL, 33, RETURN, 0);
            Checks.write(w, 4, 1, CALLER, 0, RETURN, 0);
            checks.same("called by " + caller, w.run(caller, 0, 0, 99), 0);
            checks.same("called by " + caller, w.given(), caller);
            checks.same("called by none", w.run(4, 1, 0, 99), 0);
            checks.same("called by none", w.given(), -1);
        }
        // the one that called it, not the one that called that; and behind a call it is as it was
        CallWalker w = Checks.with(PUT, 0, PUT, 99, PUT, 0, CALL, 8, CALLER, 0, RETURN, 0);
        Checks.write(w, 1, 0, PUT, 0, PUT, 99, PUT, 0, CALL, 16, CALLER, 0, SET, 0);
        Checks.write(w, 2, 0, CALLER, 0, SET, 0);
        checks.same("run", w.run(0, 0, 0, 99), 0);
        checks.same("of the innermost", w.leaf(2, 0), 1);
        checks.same("of the one between, behind its call", w.leaf(1, 0), 0);
        checks.same("of the outermost, behind its call", w.given(), -1);
    }
}
