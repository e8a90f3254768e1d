/** The document's Terms at the edges that they name, sentence by sentence (EdgesOfCodesTest has the codes). */
public final class EdgesOfTermsTest implements Names {
    private static final int BAD = CallWalker.BAD, FULL = CallWalker.FULL, OUT = CallWalker.OUT;
    private static final long LEAST = Long.MIN_VALUE, MOST = Long.MAX_VALUE;

    private static final Checks checks = new Checks();

    public static void main(String[] args) {
        used512Times();
        contractsBehavioursAndSteps();
        leavesAndBalances();
        values();
        pileOfAFrame();
        handlersOfAFrame();
        limitOfAFrame();
        beginsWithOneValue();
        endsBehindItsLastStep();
        givesZeroBehindItsLastStep();
        numbersOfFailures();
        noneLeftOfTheLimit();
        pileWithAHandler();
        latestHandlerFirst();
        stepOfAHandler();
        undoneWithoutAHandler();
        failureAtTheCall();
        limitAtTheCall();
        tenFailures();
        countedOnce();
        theEleventhFailure();
        badAheadOfFull();
        refusedCallsChangeNothing();
        checks.end();
    }

    private static void used512Times() {
        checks.sentence("An object is used for at most 512 calls after it has been made");
        CallWalker w = new CallWalker();
        int[] steps = {PUT, 0, PUT, 600, PUT, 16, NEW_LONGS, 0, CALL, 0};
        for (int i = 0; i < 5; i++) {
            w.step(0, 0, steps[2 * i], steps[2 * i + 1]);
        }
        for (int call = 6; call <= 511; call++) {
            checks.same("call " + call, w.run(0, 0, 0, 600), DEEP);
        }
        checks.same("call 512", w.told(0), 50);
    }

    private static void contractsBehavioursAndSteps() {
        checks.sentence("CONTRACTS 0 .. 7 have BEHAVIOURS 0 .. 5, of up to 24 STEPS each");
        for (int contract = 0; contract < 8; contract++) {
            CallWalker w = new CallWalker();
            for (int behaviour = 0; behaviour < 6; behaviour++) {
                int[] steps = Checks.often(24, JUMP, 0);
                for (int i = 1; i < 23; i++) {
                    steps[2 * i + 1] = i + 1;
                }
                steps[0] = PUT;
                steps[1] = 10 * contract + behaviour;
                steps[46] = RETURN;
                Checks.write(w, contract, behaviour, steps);
                checks.same("a 25th", w.step(contract, behaviour, FAIL, 0), FULL);
            }
            for (int behaviour = 0; behaviour < 6; behaviour++) {
                checks.same("run", w.run(contract, behaviour, 0, 24), 0);
                checks.same("given", w.given(), 10 * contract + behaviour);
            }
        }
        CallWalker all = new CallWalker();
        for (int i = 0; i < 48; i++) {
            all.step(i / 6, i % 6, PUT, 100 + i);
            all.step(i / 6, i % 6, RETURN, 0);
        }
        for (int i = 0; i < 48; i++) {
            checks.same("one of all: run", all.run(i / 6, i % 6, 0, 2), 0);
            checks.same("one of all: given", all.given(), 100 + i);
        }
    }

    private static void leavesAndBalances() {
        checks.sentence("LEAVES 0 .. 7 and a BALANCE (whole numbers of 64 bits, "
            + "which wrap where nothing else is said; 0 at first)");
        for (int k = 0; k < 8; k++) {
            checks.gives("leaf at first", 0, 9, LEAF, k, RETURN, 0);
        }
        checks.gives("balance at first", 0, 9, BALANCE, 0, RETURN, 0);
        for (long v : new long[] {LEAST, LEAST + 1, -(1L << 32), 1L << 31, 1L << 32, MOST - 1, MOST}) {
            checks.gives("leaf of " + v, v, v, SET, 7, LEAF, 7, RETURN, 0);
            CallWalker w = Checks.with(SET, 0);
            w.run(0, 0, v, 1);
            checks.same("leaf of " + v, w.leaf(0, 0), v);
        }
        for (long v : new long[] {0, 1, 1L << 31, 1L << 32, MOST - 1, MOST}) {
            CallWalker w = Checks.with(BALANCE, 0, RETURN, 0);
            w.fund(0, v);
            checks.same("balance of " + v, w.balance(0), v);
            checks.same("balance of " + v, w.run(0, 0, 0, 2), 0);
            checks.same("balance of " + v, w.given(), v);
        }
        checks.gives("the least by -1 wraps", LEAST, LEAST, PUT, -1, DIVIDE, 0, RETURN, 0);
    }

    private static void values() {
        checks.sentence("A VALUE is a NUMBER, a ROW (of longs, or of ints; with places 0, 1, ..), or NOTHING.");
        for (int kind = 0; kind <= 1; kind++) {
            int make = NEW_LONGS + kind;
            int get = GET_LONG + kind;
            checks.gives("the first place is 0", 0, 1, make, 0, PUT, 0, get, 0, RETURN, 0);
            checks.fails("of one element there is no place 1", INDEX, 1, make, 0, PUT, 1, get, 0);
            checks.gives("of two there is a place 1", 0, 2, make, 0, PUT, 1, get, 0, RETURN, 0);
            checks.fails("there is no place -1", INDEX, 2, make, 0, PUT, -1, get, 0);
            checks.fails("an empty one has no place 0", INDEX, 0, make, 0, PUT, 0, get, 0);
            checks.fails("an empty one is not NOTHING, and no NUMBER", CAST, 0, make, 0, RETURN, 0);
            checks.gives("an empty one is a ROW", 0, 0, make, 0, LENGTH, 0, RETURN, 0);
        }
        checks.fails("NOTHING is no NUMBER", CAST, 0, NOTHING, 0, RETURN, 0);
        checks.fails("NOTHING is no ROW", NULL, 0, NOTHING, 0, LENGTH, 0);
        checks.fails("0 is a NUMBER, not NOTHING", CAST, 0, LENGTH, 0);
    }

    private static void pileOfAFrame() {
        checks.sentence("THE PILE of up to 12 VALUES");
        checks.gives("12", 4, 0, Checks.join(Checks.often(10, PUT, 1), new int[] {PUT, 4, RETURN, 0}));
        checks.fails("13", PILE, 0, Checks.often(12, PUT, 1));
        // 9 values, and the 3 that the call takes: the pile is full when it calls
        int[] caller = Checks.join(Checks.often(8, PUT, 1), new int[] {PUT, 0, PUT, 600, PUT, 5, CALL, 8});
        CallWalker w = Checks.with(Checks.join(caller, new int[] {RETURN, 0}));
        Checks.write(w, 1, 0, Checks.join(Checks.often(11, PUT, 2), new int[] {RETURN, 0}));
        checks.same("the called one has its own 12", w.run(0, 0, 0, 600), 0);
        checks.same("the called one has its own 12", w.given(), 2);
        Checks.write(w, 1, 0, Checks.often(12, PUT, 2));
        checks.same("the called one has no 13", w.run(0, 0, 0, 600), PILE);
        checks.same("the called one has no 13", w.told(0), 12 + 12);
        w.empty(1, 0);
        Checks.write(w, 0, 0, Checks.join(caller, Checks.often(2, PUT, 1)));
        checks.same("10 are there behind the call, 2 come", w.run(0, 0, 0, 600), 0);
        Checks.write(w, 0, 0, Checks.join(caller, Checks.often(3, PUT, 1)));
        checks.same("10 are there behind the call, 3 come", w.run(0, 0, 0, 600), PILE);
        checks.same("10 are there behind the call, 3 come", w.told(0), 12 + 3);
    }

    private static void handlersOfAFrame() {
        checks.sentence("up to 4 HANDLERS");
        checks.gives("4", 0, 0, Checks.often(4, TRY, 0));
        CallWalker w = Checks.with(Checks.often(5, TRY, 5));
        checks.same("a 5th", w.run(0, 0, 0, 600), 0);
        checks.same("a 5th: failures", w.told(1), 1);
        checks.same("a 5th: steps", w.told(0), 5);
        checks.gives("one goes, another comes", 0, 0,
            Checks.join(Checks.often(4, TRY, 0), new int[] {UNTRY, 0, TRY, 0}));
        w = Checks.with(Checks.join(Checks.often(4, TRY, 5), new int[] {FAIL, 0, TRY, 6}));
        checks.same("one is used, another comes", w.run(0, 0, 0, 600), 0);
        checks.same("one is used, another comes", w.told(1), 1);
        w = Checks.with(Checks.join(Checks.often(4, TRY, 8), new int[] {PUT, 0, PUT, 600, PUT, 0, CALL, 8}));
        Checks.write(w, 1, 0, Checks.often(4, TRY, 4));
        checks.same("the called one has its own 4", w.run(0, 0, 0, 600), 0);
        checks.same("the called one has its own 4: failures", w.told(1), 0);
        Checks.write(w, 1, 0, Checks.often(5, TRY, 5));
        checks.same("the called one has no 5", w.run(0, 0, 0, 600), 0);
        checks.same("the called one has no 5: failures", w.told(1), 1);
        checks.same("the called one has no 5: its own handler sees it", w.told(4), 0);
    }

    private static void limitOfAFrame() {
        checks.sentence("the LIMIT of STEPS that it may take, its calls' STEPS being among them");
        CallWalker w = Checks.with(PUT, 0, PUT, 600, PUT, 0, CALL, 8, RETURN, 0);
        Checks.write(w, 1, 0, PUT, 4, RETURN, 0);
        checks.same("7 of 7", w.run(0, 0, 0, 7), 0);
        checks.same("7 of 7: given", w.given(), 4);
        for (int limit = 0; limit < 7; limit++) {
            checks.same("7 of " + limit, w.run(0, 0, 0, limit), LIMIT);
            checks.same("7 of " + limit + ": steps", w.told(0), limit);
            checks.same("7 of " + limit + ": failures", w.told(1), 1);
            checks.same("7 of " + limit + ": most", w.told(2), limit < 4 ? 1 : 2);
            checks.same("7 of " + limit + ": well", w.told(3), limit < 6 ? 0 : 1);
        }
        // 2 is called by 1, whose own limit is given by 0
        Checks.write(w, 1, 0, PUT, 0, PUT, 600, PUT, 0, CALL, 16, RETURN, 0);
        Checks.write(w, 2, 0, PUT, 6, RETURN, 0);
        for (int limit = 4; limit <= 7; limit++) {
            Checks.write(w, 0, 0, PUT, 0, PUT, limit, PUT, 0, CALL, 8, RETURN, 0);
            checks.same("called with " + limit, w.run(0, 0, 0, 600), limit < 7 ? LIMIT : 0);
            checks.same("called with " + limit + ": steps", w.told(0), 4 + limit + (limit < 7 ? 0 : 1));
            checks.same("called with " + limit + ": well", w.told(3), limit < 6 ? 0 : limit == 6 ? 1 : 3);
        }
    }

    private static void beginsWithOneValue() {
        checks.sentence("It begins with one VALUE on THE PILE");
        checks.gives("one goes", 0, 5, DROP, 0);
        checks.gives("it is the argument", -5, -5, RETURN, 0);
        CallWalker w = Checks.with(DROP, 0, DROP, 0);
        checks.same("no second goes", w.run(0, 0, 5, 9), PILE);
        checks.same("no second goes: steps", w.told(0), 2);
        for (int[] value : new int[][] {{PUT, 3}, {NOTHING, 0}, {PUT, 2, NEW_LONGS, 0}, {PUT, 0, NEW_INTS, 0}}) {
            w = Checks.with(Checks.join(new int[] {PUT, 0, PUT, 600}, value, new int[] {CALL, 8}));
            Checks.write(w, 1, 0, DROP, 0);
            checks.same("called: one goes", w.run(0, 0, 5, 99), 0);
            Checks.write(w, 1, 0, DROP, 0, DROP, 0);
            checks.same("called: no second goes", w.run(0, 0, 5, 99), PILE);
        }
    }

    private static void endsBehindItsLastStep() {
        checks.sentence("and ends behind its last STEP, or by RETURN");
        for (int count : new int[] {0, 1, 2, 23, 24}) {
            int[] steps = Checks.often(count, LEAF, 0);
            for (int i = 0; i < steps.length; i += 4) {
                steps[i] = DROP;
            }
            CallWalker w = Checks.with(steps);
            checks.same(count + " steps", w.run(0, 0, 5, count), 0);
            checks.same(count + " steps", w.told(0), count);
            if (count > 0) {
                checks.same(count + " steps, one less", w.run(0, 0, 5, count - 1), LIMIT);
            }
        }
        CallWalker w = Checks.with(RETURN, 0, FAIL, 0);
        checks.same("by RETURN", w.run(0, 0, 5, 9), 0);
        checks.same("by RETURN: no step behind it", w.told(0), 1);
        Checks.write(w, 0, 0, Checks.join(Checks.often(11, PUT, 8), Checks.often(12, DROP, 0), new int[] {RETURN, 0}));
        checks.same("by RETURN as the 24th: nothing is there", w.run(0, 0, 5, 99), PILE);
    }

    private static void givesZeroBehindItsLastStep() {
        checks.sentence("What it gives is a NUMBER (0, if it ends behind its last STEP).");
        checks.gives("no steps", 0, 5);
        checks.gives("numbers on the pile", 0, 5, PUT, 6);
        checks.gives("a row on the pile", 0, 5, NEW_LONGS, 0);
        checks.gives("NOTHING on the pile", 0, 5, NOTHING, 0);
        checks.gives("an empty pile", 0, 5, DROP, 0);
        checks.gives("a jump to the end", 0, 5, JUMP, 2, FAIL, 0);
        checks.gives("a handler at the end", 0, 5, TRY, 2, FAIL, 0);
        CallWalker w = Checks.with(PUT, 0, PUT, 600, PUT, 7, CALL, 8, RETURN, 0);
        checks.same("called: no steps", w.run(0, 0, 5, 99), 0);
        checks.same("called: no steps", w.given(), 0);
        Checks.write(w, 1, 0, PUT, 3);
        checks.same("called: numbers on the pile", w.run(0, 0, 5, 99), 0);
        checks.same("called: numbers on the pile", w.given(), 0);
    }

    private static final int[][] FAILING = {
        {}, {PUT, 0, DIVIDE, 0}, {NOTHING, 0, LENGTH, 0}, {NEW_LONGS, 0, PUT, 5, GET_LONG, 0}, {NOTHING, 0, RETURN, 0},
        {PUT, -1, NEW_LONGS, 0}, {PUT, 17, NEW_LONGS, 0}, {JUMP, 0}, {PUT, 0, PUT, 9, PUT, 0, CALL, 16},
        {PUT, 1, PUT, 9, PUT, 0, CALL, 8}, {PUT, 0, PUT, 600, PUT, 0, CALL, 0}, {ADD, 0}, {32, 0}, {FAIL, 0},
        {FAIL, 1}, {FAIL, 2}, {FAIL, 3}, {FAIL, 4}, {FAIL, 5}, {FAIL, 6}, {FAIL, 7}
    };

    private static void numbersOfFailures() {
        checks.sentence("FAILURES: 1 ZERO, 2 NULL, 3 INDEX, 4 CAST, 5 SIZE, 6 OVER, 7 LIMIT, 8 GUARD, 9 FUNDS, "
            + "10 DEEP, 11 PILE, 12 CODE, 13 .. 20 OWN.");
        for (int failure = 1; failure <= 20; failure++) {
            // contract 2 calls contract 0, and gives what its handler sees
            CallWalker w = Checks.with(FAILING[failure]);
            Checks.write(w, 2, 0, TRY, 5, PUT, 0, PUT, 60, PUT, 3, CALL, 0, RETURN, 0);
            w.guard(2, true);
            if (failure != GUARD) {
                checks.same("a run's end", w.run(0, 0, 3, 600), failure);
            }
            checks.same("a handler's number: run", w.run(2, 0, 3, 600), 0);
            checks.same("a handler's number", w.given(), failure);
            checks.same("a handler's number: failures", w.told(1), 1);
        }
    }

    private static void noneLeftOfTheLimit() {
        checks.sentence("A STEP takes 1 of the LIMIT; if none is left, it is not done: LIMIT.");
        CallWalker w = Checks.with(TRY, 2, SET, 0);
        checks.same("a step that is not done", w.run(0, 0, 5, 1), 0);
        checks.same("a step that is not done: leaf", w.leaf(0, 0), 0);
        checks.same("a step that is not done: steps", w.told(0), 1);
        checks.same("a step that is not done: failures", w.told(1), 1);
        checks.same("a step that is done", w.run(0, 0, 5, 2), 0);
        checks.same("a step that is done: leaf", w.leaf(0, 0), 5);
        checks.same("a step that is done: failures", w.told(1), 0);
        Checks.write(w, 0, 0, 99, 0);
        checks.same("LIMIT ahead of CODE", w.run(0, 0, 5, 0), LIMIT);
        checks.same("CODE", w.run(0, 0, 5, 1), CODE);
        Checks.write(w, 0, 0, ADD, 0);
        checks.same("LIMIT ahead of PILE", w.run(0, 0, 5, 0), LIMIT);
        checks.same("PILE", w.run(0, 0, 5, 1), PILE);
        Checks.write(w, 0, 0, TRY, 2, FAIL, 0, DROP, 0);
        checks.same("a step that fails takes 1, too", w.run(0, 0, 5, 2), LIMIT);
        checks.same("a step that fails takes 1, too", w.told(0), 2);
        checks.same("a handler takes none", w.run(0, 0, 5, 3), 0);
        Checks.write(w, 0, 0, TRY, 4, TRY, 3, TRY, 2, SET, 0);
        checks.same("each handler that has no step left fails again", w.run(0, 0, 6, 3), 0);
        checks.same("each handler that has no step left fails again", w.told(1), 3);
        checks.same("each handler that has no step left fails again", w.leaf(0, 0), 5);
    }

    private static void pileWithAHandler() {
        checks.sentence("THE PILE is as high as it was when that came (what was above is gone; "
            + "if it is lower, it stays), the FAILURE's number comes");
        for (int height = 0; height <= 11; height++) {
            int[] ahead = Checks.join(new int[] {DROP, 0}, Checks.often(height, PUT, 5));
            for (int above = 0; above <= 12 - height; above++) {
                int[] behind = Checks.join(Checks.often(above, PUT, 6), new int[] {FAIL, 0});
                checks.leaves(above + " above " + height, new CallWalker(), OWN, height, ahead, behind);
            }
            for (int below = 1; below <= height && below + height <= 16; below++) {
                int[] behind = Checks.join(Checks.often(below, DROP, 0), new int[] {FAIL, 0});
                checks.leaves(below + " below " + height, new CallWalker(), OWN, height - below, ahead, behind);
            }
        }
        checks.gives("what is kept is as it was", 7 - (8 - 13), 7,
            PUT, 8, TRY, 5, PUT, 1, PUT, 2, FAIL, 0, SUBTRACT, 0, SUBTRACT, 0, RETURN, 0);
        // what came again in the place of what was there when the handler came, is there
        checks.gives("lower, and higher again", 20 - 13, 7,
            TRY, 5, DROP, 0, PUT, 20, PUT, 1, FAIL, 0, SUBTRACT, 0, RETURN, 0);
    }

    /** Four handlers; each tells an event of its own, and fails anew, but for the last one. */
    private static CallWalker fourHandlers(int code, int x) {
        return Checks.with(TRY, 14, TRY, 11, TRY, 8, TRY, 5, FAIL, 0, PUT, 4, EVENT, 0, FAIL, 1, PUT, 3, EVENT, 0,
            FAIL, 2, PUT, 2, EVENT, 0, FAIL, 3, PUT, 1, EVENT, 0, code, x);
    }

    private static void latestHandlerFirst() {
        checks.sentence("with a HANDLER there, the latest one goes");
        CallWalker w = fourHandlers(RETURN, 0);
        checks.same("four", w.run(0, 0, 0, 99), 0);
        checks.same("four: the last sees", w.given(), 16);
        checks.same("four: failures", w.told(1), 4);
        for (int i = 0; i < 4; i++) {
            checks.same("four: event " + i, w.value(i), 4 - i);
        }
        w = fourHandlers(FAIL, 4);
        checks.same("none is left", w.run(0, 0, 0, 99), 17);
        checks.same("none is left: failures", w.told(1), 5);
        checks.same("none is left: events", w.events(), 0);
    }

    private static void stepOfAHandler() {
        checks.sentence("and the HANDLER's STEP is next");
        checks.gives("the first", 9, 0, LEAF, 0, JUMP_IF_ZERO, 4, PUT, 9, RETURN, 0,
            PUT, 1, SET, 0, TRY, 0, FAIL, 3);
        checks.gives("the last", 16, 0, TRY, 2, FAIL, 3, RETURN, 0);
        checks.gives("the end", 0, 0, TRY, 2, FAIL, 3);
        CallWalker w = Checks.with(TRY, 1, FAIL, 3);
        checks.same("the one that failed", w.run(0, 0, 0, 99), 16);
        checks.same("the one that failed: failures", w.told(1), 2);
    }

    private static void undoneWithoutAHandler() {
        checks.sentence("Without one the CALL ends by it: LEAVES, BALANCES and EVENTS of all CONTRACTS are "
            + "as they were when it was CALLED (ahead of the sum)");
        // 7 changes its last leaf, pays 6 and has it do the same, tells an event, and fails
        CallWalker w = Checks.with(PUT, 5, SET, 0, PUT, 4, EVENT, 0, TRY, 9, BALANCE, 0, PUT, 500, PUT, 1,
            CALL, 56, BALANCE, 0, SET, 1, LEAF, 0, SET, 2);
        Checks.write(w, 7, 0, SET, 7, PUT, 1, EVENT, 0, BALANCE, 0, PUT, 100, PUT, 2, CALL, 48, FAIL, 0);
        Checks.write(w, 6, 0, SET, 0, PUT, 2, EVENT, 0);
        Checks.write(w, 7, 1, SET, 7);
        Checks.write(w, 6, 1, SET, 0);
        w.run(7, 1, LEAST, 1);
        w.run(6, 1, MOST, 1);
        w.fund(0, MOST);
        checks.same("run", w.run(0, 0, 0, 600), 0);
        checks.same("failures", w.told(1), 1);
        checks.same("leaf of the one that failed", w.leaf(7, 7), LEAST);
        checks.same("leaf of the one that ended well within", w.leaf(6, 0), MOST);
        checks.same("balance of the caller", w.balance(0), MOST);
        checks.same("balance of the one that failed", w.balance(7), 0);
        checks.same("balance of the one within", w.balance(6), 0);
        checks.same("the caller's event stays", w.events(), 1);
        checks.same("the caller's event stays", w.value(0), 4);
        checks.same("the caller's leaf stays", w.leaf(0, 0), 5);
        checks.same("the handler sees the balance", w.leaf(0, 1), MOST);
        checks.same("the handler sees the leaf", w.leaf(0, 2), 5);
        checks.same("one ended well, and the run", w.told(3), 2);
        checks.same("one was undone", w.told(4), 1);
    }

    private static void failureAtTheCall() {
        checks.sentence("and its caller has that FAILURE at its CALL");
        CallWalker w = new CallWalker();
        Checks.write(w, 1, 0, FAIL, 7);
        // with a limit of 0 the called one takes no step, so that only the caller's are counted
        checks.leaves("what the call took is gone", w, LIMIT, 2, new int[] {PUT, 5, PUT, 0, PUT, 0, PUT, 0}, CALL, 8);
        Checks.write(w, 0, 0, PUT, 0, PUT, 99, PUT, 0, CALL, 8, SET, 0);
        checks.same("without a handler", w.run(0, 0, 0, 99), 20);
        checks.same("without a handler: steps", w.told(0), 5);
        checks.same("without a handler: undone", w.told(4), 2);
        // a handler of the called one is not its caller's, nor the other way round
        Checks.write(w, 1, 0, TRY, 2, UNTRY, 0, FAIL, 7);
        Checks.write(w, 0, 0, TRY, 6, PUT, 0, PUT, 99, PUT, 0, CALL, 8, UNTRY, 0, RETURN, 0);
        checks.same("each has its own handlers", w.run(0, 0, 0, 99), 0);
        checks.same("each has its own handlers", w.given(), 20);
    }

    private static void limitAtTheCall() {
        checks.sentence("(LIMIT, too; the STEPS stay taken)");
        CallWalker w = Checks.with(TRY, 5, PUT, 0, PUT, 3, PUT, 0, CALL, 8, RETURN, 0);
        Checks.write(w, 1, 0, JUMP, 0);
        checks.same("6 and 3 of 9", w.run(0, 0, 0, 9), 0);
        checks.same("6 and 3 of 9: given", w.given(), LIMIT);
        checks.same("6 and 3 of 9: steps", w.told(0), 9);
        checks.same("6 and 3 of 9: failures", w.told(1), 1);
        checks.same("6 and 3 of 8", w.run(0, 0, 0, 8), LIMIT);
        checks.same("6 and 3 of 8: steps", w.told(0), 8);
        checks.same("6 and 3 of 8: failures", w.told(1), 2);
        checks.same("6 and 3 of 7", w.run(0, 0, 0, 7), LIMIT);
        checks.same("6 and 3 of 7: steps", w.told(0), 7);
        checks.same("6 and 3 of 7: failures", w.told(1), 2);
    }

    /** Fails as often as is told, with a handler each time; then what is behind. */
    private static CallWalker failsOften(int times, int... behind) {
        return Checks.with(Checks.join(new int[] {TRY, 6, LEAF, 0, PUT, 1, ADD, 0, SET, 0, FAIL, 2, DROP, 0,
            LEAF, 0, PUT, times, LIKE, 0, JUMP_IF_ZERO, 0}, behind));
    }

    private static void tenFailures() {
        checks.sentence("A RUN has at most 10 FAILURES");
        for (int times = 1; times <= 10; times++) {
            CallWalker w = failsOften(times, PUT, 6, RETURN, 0);
            checks.same(times + " failures", w.run(0, 0, 0, 600), 0);
            checks.same(times + " failures: given", w.given(), 6);
            checks.same(times + " failures: told", w.told(1), times);
            checks.same(times + " failures: leaf", w.leaf(0, 0), times);
        }
        CallWalker w = failsOften(9, FAIL, 5);
        checks.same("it ends by the 10th", w.run(0, 0, 0, 600), 18);
        checks.same("it ends by the 10th", w.told(1), 10);
        int[][] eleventh = {
            {FAIL, 5}, {JUMP, 11}, {99, 0}, {PUT, -1, PUT, 9, PUT, 0, CALL, 8}, {PUT, 0, PUT, 9, PUT, 0, CALL, 9},
            {TRY, 13, DIVIDE, 0}
        };
        for (int[] behind : eleventh) {
            w = failsOften(10, behind);
            Checks.write(w, 1, 1, FAIL, 0);
            checks.same("the 11th is none of its own", w.run(0, 0, 0, 600), OUT);
            checks.same("the 11th is none of its own", w.told(1), 10);
        }
    }

    private static void countedOnce() {
        checks.sentence("each counted once where it arises");
        // ten calls, one in the other; the one that is in all of them fails
        CallWalker w = Checks.with(JUMP_IF_ZERO, 1, LEAF, 0, PUT, 1, ADD, 0, AGAIN, 0, SET, 0, PUT, 10, LIKE, 0,
            JUMP_IF_ZERO, 10, FAIL, 1, PUT, 0, PUT, 600, PUT, 0, CALL, 0);
        checks.same("through ten calls", w.run(0, 0, 0, 600), 14);
        checks.same("through ten calls: most", w.told(2), 10);
        checks.same("through ten calls: failures", w.told(1), 1);
        checks.same("through ten calls: undone", w.told(4), 10);
        // each of the ten has a handler that fails anew: ten failures, and no 11th
        Checks.write(w, 0, 0, TRY, 15, LEAF, 0, PUT, 1, ADD, 0, AGAIN, 0, SET, 0, PUT, 10, LIKE, 0,
            JUMP_IF_ZERO, 10, FAIL, 1, PUT, 0, PUT, 600, PUT, 0, CALL, 0, RETURN, 0, FAIL, 2);
        checks.same("a new one in the second handler and on", w.run(0, 0, 0, 600), OUT);
        checks.same("a new one in the second handler and on", w.told(1), 10);
        checks.same("a new one in the second handler and on: undone", w.told(4), 10);
    }

    private static void theEleventhFailure() {
        checks.sentence("at the 11th (that is not counted) it ends, and all is as before it (OUT)");
        // 0 changes a leaf, tells an event, and pays 1, which fails without an end, with a handler each time
        CallWalker w = Checks.with(PUT, 3, SET, 0, PUT, 3, EVENT, 0, TRY, 9, BALANCE, 0, PUT, 500, PUT, 0,
            CALL, 8, RETURN, 0);
        Checks.write(w, 1, 0, PUT, 4, SET, 1, PUT, 4, EVENT, 0, TRY, 0, FAIL, 1);
        Checks.write(w, 2, 0, AGAIN, 0, EVENT, 0, AGAIN, 0, SET, 0, RETURN, 0);
        w.fund(0, 7);
        w.fund(1, 8);
        checks.same("an earlier run", w.run(2, 0, 55, 9), 0);
        checks.same("an earlier run's event", w.events(), 1);
        checks.same("run", w.run(0, 0, 0, 600), OUT);
        checks.same("given", w.given(), 0);
        checks.same("steps", w.told(0), 9 + 11 * 6);
        checks.same("failures", w.told(1), 10);
        checks.same("most", w.told(2), 2);
        checks.same("well", w.told(3), 0);
        checks.same("undone, those under way", w.told(4), 2);
        checks.same("leaf", w.leaf(0, 0), 0);
        checks.same("the other's leaf", w.leaf(1, 1), 0);
        checks.same("an earlier run's leaf", w.leaf(2, 0), 55);
        checks.same("balance", w.balance(0), 7);
        checks.same("the other's balance", w.balance(1), 8);
        checks.same("events", w.events(), 0);
        checks.same("the next run", w.run(2, 0, 56, 9), 0);
        checks.same("the next run", w.given(), 56);
        checks.same("the next run: failures", w.told(1), 0);
    }

    private static void badAheadOfFull() {
        checks.sentence("Calls answer, in this order, BAD (a number is not as told), FULL (no room), "
            + "as they name them");
        CallWalker w = Checks.with(Checks.often(24, PUT, 0));
        Checks.write(w, 7, 5, Checks.often(24, PUT, 0));
        checks.same("full", w.step(0, 0, PUT, 0), FULL);
        checks.same("full, whatever the code", w.step(7, 5, -1, -1), FULL);
        checks.same("no contract", w.step(-1, 0, PUT, 0), BAD);
        checks.same("no behaviour", w.step(7, 6, PUT, 0), BAD);
        checks.same("no contract, no behaviour", w.step(8, -1, PUT, 0), BAD);
    }

    private interface Refused {
        long on(CallWalker w);
    }

    /** Something of each kind is there, so that a change of any of it can be seen. */
    private static CallWalker busy() {
        CallWalker w = Checks.with(SET, 0, PUT, 9, EVENT, 0, PUT, 3, PUT, 50, PUT, 0, CALL, 57, RETURN, 0);
        Checks.write(w, 7, 1, PUT, 2, SET, 7, PUT, 8, EVENT, 0, PUT, 6, RETURN, 0);
        Checks.write(w, 7, 5, Checks.often(24, PUT, 1));
        w.fund(0, 10);
        w.guard(0, true);
        w.guard(7, true);
        w.run(0, 0, 4, 99);
        return w;
    }

    private static void refused(String what, int want, Refused call) {
        CallWalker w = busy();
        String before = Checks.read(w);
        checks.same(what, call.on(w), want);
        checks.sameText(what + ": what is told behind it", Checks.read(w), before);
        for (int contract = 0; contract < 8; contract++) {
            boolean on = contract == 0 || contract == 7;
            checks.same(what + ": guard of " + contract, w.guard(contract, on), on ? 1 : 0);
            for (int behaviour = 0; behaviour < 6; behaviour++) {
                int steps = 10 * contract + behaviour == 0 ? 8 : 10 * contract + behaviour == 71 ? 6
                    : 10 * contract + behaviour == 75 ? 24 : 0;
                checks.same(what + ": steps of " + contract + " " + behaviour, w.empty(contract, behaviour), steps);
            }
        }
    }

    private static void refusedCallsChangeNothing() {
        checks.sentence("what answers so changes nothing");
        refused("step, FULL", FULL, w -> w.step(7, 5, PUT, 1));
        for (int none : new int[] {Integer.MIN_VALUE, -1, 8, Integer.MAX_VALUE}) {
            refused("step, contract " + none, BAD, w -> w.step(none, 0, PUT, 1));
            refused("step, behaviour " + none, BAD, w -> w.step(3, none, PUT, 1));
            refused("empty, contract " + none, BAD, w -> w.empty(none, 1));
            refused("empty, behaviour " + none, BAD, w -> w.empty(1, none));
            refused("guard on, contract " + none, BAD, w -> w.guard(none, true));
            refused("guard off, contract " + none, BAD, w -> w.guard(none, false));
            refused("fund, contract " + none, BAD, w -> w.fund(none, 5));
            refused("run, contract " + none, BAD, w -> w.run(none, 0, 5, 99));
            refused("run, behaviour " + none, BAD, w -> w.run(0, none, 5, 99));
            refused("told " + none, BAD, w -> w.told(none));
            refused("leaf, contract " + none, 0, w -> w.leaf(none, 0));
            refused("leaf " + none, 0, w -> w.leaf(7, none));
            refused("balance, contract " + none, 0, w -> w.balance(none));
            refused("event " + none, BAD, w -> w.event(none, 0));
            refused("event, what " + none, BAD, w -> w.event(0, none));
        }
        refused("fund -1", BAD, w -> w.fund(0, -1));
        refused("fund the least", BAD, w -> w.fund(0, LEAST));
        refused("run, limit -1", BAD, w -> w.run(0, 0, 5, -1));
        refused("run, limit 601", BAD, w -> w.run(0, 0, 5, 601));
        refused("value -1", BAD, w -> {
            checks.noValue("value -1", w, -1);
            return BAD;
        });
    }
}
