/** Promises 1 to 13 at the edges that they name, sentence by sentence. */
public final class EdgesOfPromisesTest implements Names {
    private static final int BAD = CallWalker.BAD, FULL = CallWalker.FULL, OUT = CallWalker.OUT;
    private static final int MIN = Integer.MIN_VALUE, MAX = Integer.MAX_VALUE;
    private static final long LEAST = Long.MIN_VALUE, MOST = Long.MAX_VALUE;

    /** Where a place in a row were counted from these, it would be another one's that is there. */
    private static final int[] NO_CONTRACTS = {MIN, -8, -1, 8, 9, 16, MAX};
    private static final int[] NO_BEHAVIOURS = {MIN, -6, -1, 6, 7, 8, 11, MAX};
    private static final int[] NO_LEAVES = {MIN, -8, -1, 8, 9, 15, MAX};

    private static final Checks checks = new Checks();

    public static void main(String[] args) {
        newObject();
        stepHowMany();
        stepBad();
        stepFull();
        stepAnyCode();
        emptyHowMany();
        emptyBad();
        guardWas();
        guardBad();
        fundBecomes();
        fundBad();
        runCalledByNone();
        runAnswers();
        runEventsOfEarlierOnes();
        runBad();
        given();
        toldStepsAndFailures();
        toldMost();
        toldWellAndUndone();
        toldAtOut();
        toldBeforeAndBad();
        leafBad();
        balanceOfNone();
        eventsLeft();
        eventBad();
        valueOfNone();
        checks.end();
    }

    private static void newObject() {
        checks.sentence("1: All CONTRACTS without STEPS, LEAVES and BALANCES 0, none GUARDED.");
        CallWalker w = new CallWalker();
        String row = "; 0: 0 0 0 0 0 0 0 0";
        checks.sameText("all", Checks.read(w), "given 0 told 0 0 0 0 0" + row.repeat(8) + "; events");
        for (int contract = 0; contract < 8; contract++) {
            for (int behaviour = 0; behaviour < 6; behaviour++) {
                checks.same("no step is taken", w.run(contract, behaviour, 5, 0), 0);
                checks.same("no steps", w.empty(contract, behaviour), 0);
            }
            // a contract that calls itself would be refused if it were guarded
            Checks.write(w, contract, 0, PUT, 0, PUT, 0, PUT, 0, CALL, contract * 8 + 1);
            checks.same("not guarded", w.run(contract, 0, 0, 9), 0);
            checks.same("not guarded", w.guard(contract, false), 0);
        }
    }

    private static void stepHowMany() {
        checks.sentence("2: A STEP comes behind the others of a BEHAVIOUR: how many.");
        CallWalker w = new CallWalker();
        for (int i = 1; i <= 24; i++) {
            checks.same("step " + i, w.step(0, 0, JUMP, i), i);
            checks.same("as many are taken", w.run(0, 0, 0, 99), 0);
            checks.same("as many are taken", w.told(0), i);
        }
        checks.gives("the last one comes last", 3, 9, PUT, 1, PUT, 2, PUT, 3, RETURN, 0);
    }

    private static void stepBad() {
        checks.sentence("2: BAD: CONTRACT, BEHAVIOUR");
        CallWalker w = new CallWalker();
        for (int contract : NO_CONTRACTS) {
            for (int behaviour = 0; behaviour < 6; behaviour++) {
                checks.same("contract " + contract, w.step(contract, behaviour, FAIL, 0), BAD);
            }
            checks.same("neither", w.step(contract, 6, FAIL, 0), BAD);
        }
        for (int behaviour : NO_BEHAVIOURS) {
            for (int contract = 0; contract < 8; contract++) {
                checks.same("behaviour " + behaviour, w.step(contract, behaviour, FAIL, 0), BAD);
            }
        }
        for (int i = 0; i < 48; i++) {
            checks.same("no other got it", w.empty(i / 6, i % 6), 0);
        }
    }

    private static void stepFull() {
        checks.sentence("2: FULL: 24.");
        CallWalker w = Checks.with(Checks.join(Checks.often(23, JUMP, 23), new int[] {RETURN, 0}));
        for (int i = 0; i < 3; i++) {
            checks.same("a 25th", w.step(0, 0, FAIL, 0), FULL);
        }
        checks.same("the 24th is as it was", w.run(0, 0, 8, 99), 0);
        checks.same("the 24th is as it was", w.given(), 8);
        checks.same("the next behaviour got none", w.empty(0, 1), 0);
        checks.same("24 are there", w.empty(0, 0), 24);
        checks.same("room again", w.step(0, 0, FAIL, 0), 1);
    }

    private static void stepAnyCode() {
        checks.sentence("2: (Any code, any x.)");
        int[] numbers = {MIN, MIN + 1, -1, 0, 31, 32, 255, 256, MAX - 1, MAX};
        for (int code : numbers) {
            CallWalker w = new CallWalker();
            for (int i = 0; i < numbers.length; i++) {
                checks.same(code + " " + numbers[i], w.step(0, 0, code, numbers[i]), i + 1);
            }
        }
        checks.gives("x is kept", MIN, 0, PUT, MIN, RETURN, 0);
        checks.gives("x is kept", MAX, 0, PUT, MAX, RETURN, 0);
        checks.fails("a code is kept", CODE, 0, 256, 0);
    }

    private static void emptyHowMany() {
        checks.sentence("3: A BEHAVIOUR has no STEPS any more: how many it had.");
        CallWalker w = new CallWalker();
        for (int count : new int[] {0, 1, 23, 24}) {
            Checks.write(w, 2, 3, Checks.often(count, FAIL, 0));
            Checks.write(w, 2, 2, FAIL, 1);
            Checks.write(w, 2, 4, FAIL, 2);
            checks.same("had " + count, w.empty(2, 3), count);
            checks.same("has none", w.empty(2, 3), 0);
            checks.same("none is taken", w.run(2, 3, 5, 0), 0);
            checks.same("the one ahead stays", w.run(2, 2, 5, 9), 14);
            checks.same("the one behind stays", w.run(2, 4, 5, 9), 15);
        }
        Checks.write(w, 2, 3, FAIL, 0, FAIL, 0);
        w.empty(2, 3);
        checks.same("a new first one", w.step(2, 3, RETURN, 0), 1);
        checks.same("a new first one is alone", w.run(2, 3, 7, 9), 0);
        checks.same("a new first one is alone", w.given(), 7);
        w.empty(2, 3);
        w.step(2, 3, JUMP, 2);
        checks.same("places behind the end are gone, too", w.run(2, 3, 7, 9), CODE);
    }

    private static void emptyBad() {
        checks.sentence("3: BAD.");
        CallWalker w = new CallWalker();
        for (int i = 0; i < 48; i++) {
            w.step(i / 6, i % 6, FAIL, 0);
        }
        for (int contract : NO_CONTRACTS) {
            for (int behaviour = 0; behaviour < 6; behaviour++) {
                checks.same("contract " + contract, w.empty(contract, behaviour), BAD);
            }
        }
        for (int behaviour : NO_BEHAVIOURS) {
            for (int contract = 0; contract < 8; contract++) {
                checks.same("behaviour " + behaviour, w.empty(contract, behaviour), BAD);
            }
        }
        for (int i = 0; i < 48; i++) {
            checks.same("all are as they were", w.empty(i / 6, i % 6), 1);
        }
    }

    private static void guardWas() {
        checks.sentence("4: A CONTRACT is GUARDED from now on, or not: 1 if it was, else 0.");
        CallWalker w = new CallWalker();
        for (int contract = 0; contract < 8; contract++) {
            Checks.write(w, contract, 0, PUT, 0, PUT, 9, PUT, 0, CALL, contract * 8 + 1);
            checks.same("on", w.guard(contract, true), 0);
            checks.same("on: refuses", w.run(contract, 0, 0, 9), GUARD);
            checks.same("on, again", w.guard(contract, true), 1);
            checks.same("on, again: refuses", w.run(contract, 0, 0, 9), GUARD);
            checks.same("off", w.guard(contract, false), 1);
            checks.same("off: lets it", w.run(contract, 0, 0, 9), 0);
            checks.same("off, again", w.guard(contract, false), 0);
            checks.same("on, for those that follow", w.guard(contract, true), 0);
        }
        for (int contract = 0; contract < 8; contract++) {
            checks.same("each has its own", w.guard(contract, contract % 2 == 0), 1);
        }
        for (int contract = 0; contract < 8; contract++) {
            checks.same("each has its own", w.guard(contract, false), contract % 2 == 0 ? 1 : 0);
        }
    }

    private static void guardBad() {
        checks.sentence("4: BAD.");
        CallWalker w = new CallWalker();
        for (int contract : NO_CONTRACTS) {
            checks.same("on " + contract, w.guard(contract, true), BAD);
            checks.same("off " + contract, w.guard(contract, false), BAD);
            checks.same("on again " + contract, w.guard(contract, true), BAD);
        }
        for (int contract = 0; contract < 8; contract++) {
            checks.same("none got it", w.guard(contract, false), 0);
        }
    }

    private static void fundBecomes() {
        checks.sentence("5: A BALANCE becomes v: 1.");
        CallWalker w = new CallWalker();
        for (long v : new long[] {MOST, 0, 1, 1L << 32, MOST - 1, 0}) {
            checks.same("fund " + v, w.fund(7, v), 1);
            checks.same("becomes, and is not added", w.balance(7), v);
        }
        for (int contract = 0; contract < 8; contract++) {
            checks.same("fund of " + contract, w.fund(contract, 10 + contract), 1);
        }
        for (int contract = 0; contract < 8; contract++) {
            checks.same("each has its own", w.balance(contract), 10 + contract);
        }
    }

    private static void fundBad() {
        checks.sentence("5: BAD: CONTRACT, v is below 0.");
        CallWalker w = new CallWalker();
        w.fund(0, 9);
        w.fund(7, 9);
        for (int contract : NO_CONTRACTS) {
            checks.same("contract " + contract, w.fund(contract, 5), BAD);
            checks.same("contract " + contract + ", below 0", w.fund(contract, -5), BAD);
        }
        for (long v : new long[] {-1, -1L << 31, -1L << 32, LEAST}) {
            for (int contract = 0; contract < 8; contract++) {
                checks.same("v " + v, w.fund(contract, v), BAD);
            }
        }
        for (int contract = 0; contract < 8; contract++) {
            checks.same("as it was", w.balance(contract), contract % 7 == 0 ? 9 : 0);
        }
    }

    private static void runCalledByNone() {
        checks.sentence("6: A RUN: a BEHAVIOUR is CALLED with a NUMBER, by none, without a sum");
        for (long argument : new long[] {LEAST, -1, 0, 1, 1L << 32, MOST}) {
            checks.gives("argument " + argument, argument, argument, RETURN, 0);
        }
        CallWalker w = Checks.with(CALLER, 0, RETURN, 0);
        w.fund(0, MOST);
        checks.same("by none", w.run(0, 0, 5, 2), 0);
        checks.same("by none", w.given(), -1);
        checks.same("without a sum", w.balance(0), MOST);
        w.guard(0, true);
        checks.same("guarded, but none is under way", w.run(0, 0, 5, 2), 0);
    }

    private static void runAnswers() {
        checks.sentence("6: 0, what it gave is told by given(); 1 .. 20: the FAILURE by which it ended; OUT.");
        CallWalker w = Checks.with(RETURN, 0);
        for (long number : new long[] {-3, -1, 0, 1, 20}) {
            checks.same("0, whatever it gives", w.run(0, 0, number, 1), 0);
            checks.same("0, whatever it gives", w.given(), number);
        }
        Checks.write(w, 0, 0, PUT, 0, DIVIDE, 0);
        checks.same("the lowest failure", w.run(0, 0, 0, 2), ZERO);
        Checks.write(w, 0, 0, FAIL, 7);
        checks.same("the highest failure", w.run(0, 0, 0, 2), 20);
        Checks.write(w, 0, 0, TRY, 2, FAIL, 7, FAIL, 6);
        checks.same("the one by which it ended", w.run(0, 0, 0, 9), 19);
        Checks.write(w, 0, 0, TRY, 0, FAIL, 7);
        checks.same("OUT, though the steps would be enough", w.run(0, 0, 0, 600), OUT);
        checks.same("OUT with as many steps as it takes", w.run(0, 0, 0, 22), OUT);
        checks.same("OUT by failures of the limit", w.run(0, 0, 0, 19), OUT);
        checks.same("LIMIT as the 10th", w.run(0, 0, 0, 18), LIMIT);
        checks.same("LIMIT as the 10th", w.told(1), 10);
    }

    private static CallWalker fortyEvents() {
        return Checks.with(AGAIN, 0, JUMP_IF_ZERO, 7, AGAIN, 0, EVENT, 0, PUT, 1, SUBTRACT, 0, JUMP, 0);
    }

    private static void runEventsOfEarlierOnes() {
        checks.sentence("6: EVENTS of earlier ones are gone.");
        CallWalker w = fortyEvents();
        Checks.write(w, 1, 0, FAIL, 0);
        Checks.write(w, 2, 0, TRY, 0, FAIL, 0);
        Checks.write(w, 3, 0, EVENT, 0);
        for (int contract = 1; contract <= 4; contract++) {
            checks.same("40", w.run(0, 0, 40, 600), 0);
            checks.same("40", w.events(), 40);
            checks.same("the next run", w.run(contract, 0, 77, 600), contract == 1 ? OWN : contract == 2 ? OUT : 0);
            checks.same("they are gone", w.events(), contract == 3 ? 1 : 0);
            checks.same("they are gone", w.event(1, 0), BAD);
            checks.noValue("they are gone", w, 39);
        }
        checks.same("room for 40 again", w.run(0, 0, 40, 600), 0);
        w.run(3, 0, 77, 600);
        checks.same("its own is the first", w.value(0), 77);
        checks.same("its own is the first", w.event(0, 0), 3);
    }

    private static void runBad() {
        checks.sentence("6: BAD: CONTRACT, BEHAVIOUR, limit is not 0 .. 600.");
        CallWalker w = Checks.with(EVENT, 0);
        w.run(0, 0, 5, 9);
        for (int contract : NO_CONTRACTS) {
            checks.same("contract " + contract, w.run(contract, 0, 5, 9), BAD);
            checks.same("contract " + contract, w.run(contract, 5, 5, 9), BAD);
        }
        for (int behaviour : NO_BEHAVIOURS) {
            checks.same("behaviour " + behaviour, w.run(0, behaviour, 5, 9), BAD);
            checks.same("behaviour " + behaviour, w.run(7, behaviour, 5, 9), BAD);
        }
        for (int limit : new int[] {MIN, -600, -1, 601, 602, 1 << 16, MAX}) {
            checks.same("limit " + limit, w.run(0, 0, 5, limit), BAD);
            checks.same("limit " + limit + ", no steps", w.run(0, 1, 5, limit), BAD);
        }
        checks.same("no event is gone", w.events(), 1);
        for (int limit : new int[] {1, 2, 599, 600}) {
            checks.same("limit " + limit, w.run(0, 0, 5, limit), 0);
        }
        checks.same("limit 0", w.run(0, 0, 5, 0), LIMIT);
        checks.same("limit 0, no steps", w.run(0, 1, 5, 0), 0);
    }

    private static void given() {
        checks.sentence("7: What the latest RUN gave; 0 if it ended by a FAILURE, OUT, and before one.");
        CallWalker w = Checks.with(RETURN, 0);
        Checks.write(w, 1, 0, FAIL, 0);
        Checks.write(w, 2, 0, TRY, 0, FAIL, 0);
        Checks.write(w, 3, 0, PUT, 5, RETURN, 0);
        Checks.write(w, 4, 0, PUT, 0, PUT, 99, PUT, 0, CALL, 24, FAIL, 0);
        checks.same("before one", w.given(), 0);
        checks.same("before one, behind a run that was BAD", w.run(0, 0, 7, 601), BAD);
        checks.same("before one, behind a run that was BAD", w.given(), 0);
        for (int contract : new int[] {1, 2, 4, 5}) {
            w.run(0, 0, LEAST, 9);
            checks.same("what it gave", w.given(), LEAST);
            w.run(contract, 0, 7, 600);
            checks.same("0 behind a run of " + contract, w.given(), 0);
        }
        w.run(0, 0, MOST, 9);
        w.run(8, 0, 7, 9);
        checks.same("a run that was BAD is none", w.given(), MOST);
    }

    private static void toldStepsAndFailures() {
        checks.sentence("8: Of the latest RUN: what = 0 STEPS taken, 1 FAILURES");
        CallWalker w = Checks.with(JUMP, 0);
        for (int limit : new int[] {0, 1, 599, 600}) {
            checks.same("run", w.run(0, 0, 0, limit), LIMIT);
            checks.same("the step that was not done is not among them", w.told(0), limit);
            checks.same("failures", w.told(1), 1);
        }
        checks.same("no steps", w.run(0, 1, 0, 600), 0);
        checks.same("no steps", w.told(0), 0);
        checks.same("no failures", w.told(1), 0);
        Checks.write(w, 0, 0, TRY, 0, FAIL, 0);
        w.run(0, 0, 0, 600);
        checks.same("the step of the 11th failure is among them", w.told(0), 22);
        checks.same("the 11th failure is not among them", w.told(1), 10);
        Checks.write(w, 0, 0, FAIL, 0);
        w.run(0, 0, 0, 600);
        checks.same("the step that failed is among them", w.told(0), 1);
    }

    private static void toldMost() {
        checks.sentence("8: 2 how many CALLS were under way when most were");
        CallWalker w = new CallWalker();
        checks.same("run", w.run(0, 0, 0, 0), 0);
        checks.same("the run's own", w.told(2), 1);
        // calls itself as often as it is told, then twice a behaviour that has no steps
        Checks.write(w, 0, 0, AGAIN, 0, JUMP_IF_ZERO, 9, PUT, 1, SUBTRACT, 0, PUT, 0, SWAP, 0, PUT, 600, SWAP, 0,
            CALL, 0, PUT, 0, PUT, 0, PUT, 0, CALL, 1, PUT, 0, PUT, 0, PUT, 0, CALL, 1);
        for (int calls = 0; calls <= 8; calls++) {
            checks.same("run " + calls, w.run(0, 0, calls, 600), 0);
            checks.same("one in the other, and not one behind the other", w.told(2), calls + 2);
            checks.same("all ended well", w.told(3), 3 * (calls + 1));
        }
        checks.same("no more than 10", w.run(0, 0, 9, 600), DEEP);
        checks.same("no more than 10", w.told(2), 10);
    }

    private static void toldWellAndUndone() {
        checks.sentence("8: 3 CALLS that ended well, 4 CALLS that were undone");
        CallWalker w = new CallWalker();
        w.run(0, 0, 0, 0);
        checks.same("the run's own: well", w.told(3), 1);
        checks.same("the run's own: undone", w.told(4), 0);
        Checks.write(w, 0, 0, FAIL, 0);
        w.run(0, 0, 0, 9);
        checks.same("the run's own failed: well", w.told(3), 0);
        checks.same("the run's own failed: undone", w.told(4), 1);
        // a call that is refused is none: GUARD, FUNDS, CODE, CAST, with a handler each
        w.guard(1, true);
        int[][] refused = {
            {PUT, 0, PUT, 9, PUT, 0, CALL, 8}, {PUT, 1, PUT, 9, PUT, 0, CALL, 0}, {PUT, 0, PUT, 9, PUT, 0, CALL, 6},
            {PUT, 0, NOTHING, 0, PUT, 0, CALL, 0}
        };
        for (int[] steps : refused) {
            Checks.write(w, 1, 0, Checks.join(new int[] {TRY, 5}, steps));
            checks.same("refused", w.run(1, 0, 0, 99), 0);
            checks.same("refused: failures", w.told(1), 1);
            checks.same("refused: most", w.told(2), 1);
            checks.same("refused: well", w.told(3), 1);
            checks.same("refused: undone", w.told(4), 0);
        }
    }

    private static void toldAtOut() {
        checks.sentence("8: (at OUT those under way, too)");
        // calls itself as often as it is told; the innermost fails without an end, with a handler each time
        CallWalker w = Checks.with(AGAIN, 0, JUMP_IF_ZERO, 9, PUT, 1, SUBTRACT, 0, PUT, 0, SWAP, 0, PUT, 600, SWAP, 0,
            CALL, 0, TRY, 9, FAIL, 0);
        for (int calls = 0; calls <= 9; calls++) {
            checks.same("run " + calls, w.run(0, 0, calls, 600), OUT);
            checks.same("all that were under way", w.told(4), calls + 1);
            checks.same("none ended well", w.told(3), 0);
        }
        // ten calls that failed, one that ended well, and at the 11th failure the caller and the called one
        Checks.write(w, 0, 0, PUT, 0, PUT, 0, PUT, 0, CALL, 2, TRY, 9, PUT, 0, PUT, 9, PUT, 0, CALL, 1,
            DROP, 0, JUMP, 4);
        Checks.write(w, 0, 1, FAIL, 0);
        checks.same("run", w.run(0, 0, 0, 600), OUT);
        checks.same("those that failed earlier, and those under way", w.told(4), 10 + 2);
        checks.same("the one that ended well", w.told(3), 1);
    }

    private static void toldBeforeAndBad() {
        checks.sentence("8: 0 before. BAD.");
        CallWalker w = new CallWalker();
        for (int what = 0; what < 5; what++) {
            checks.same("before: " + what, w.told(what), 0);
        }
        for (int round = 0; round < 2; round++) {
            for (int what : new int[] {MIN, -5, -1, 5, 6, MAX}) {
                checks.same("what " + what, w.told(what), BAD);
            }
            checks.same("run", w.run(0, 0, 0, 0), 0);
        }
    }

    private static void leafBad() {
        checks.sentence("9: A LEAF by now. BAD: 0 as answer (no such one).");
        CallWalker w = new CallWalker();
        for (int contract = 0; contract < 8; contract++) {
            for (int k = 0; k < 8; k++) {
                w.step(contract, 0, PUT, 100 * (contract + 1) + k);
                w.step(contract, 0, SET, k);
            }
            w.run(contract, 0, 0, 99);
        }
        for (int contract = 0; contract < 8; contract++) {
            for (int k = 0; k < 8; k++) {
                checks.same("leaf " + contract + " " + k, w.leaf(contract, k), 100 * (contract + 1) + k);
            }
            for (int k : NO_LEAVES) {
                checks.same("leaf " + contract + " " + k, w.leaf(contract, k), 0);
            }
        }
        for (int contract : NO_CONTRACTS) {
            for (int k : new int[] {-1, 0, 7, 8}) {
                checks.same("leaf " + contract + " " + k, w.leaf(contract, k), 0);
            }
        }
        Checks.write(w, 7, 0, SET, 7);
        w.run(7, 0, LEAST, 1);
        checks.same("the last of all", w.leaf(7, 7), LEAST);
        w.run(7, 0, MOST, 0);
        checks.same("a run that failed leaves it", w.leaf(7, 7), LEAST);
    }

    private static void balanceOfNone() {
        checks.sentence("10: A BALANCE by now; 0 if there is no such CONTRACT.");
        CallWalker w = Checks.with(BALANCE, 0, PUT, 0, PUT, 0, CALL, 56);
        for (int contract = 0; contract < 8; contract++) {
            w.fund(contract, 5 + contract);
        }
        for (int contract : NO_CONTRACTS) {
            checks.same("contract " + contract, w.balance(contract), 0);
        }
        checks.same("run", w.run(0, 0, 0, 4), 0);
        checks.same("by now: all went", w.balance(0), 0);
        checks.same("by now: all came", w.balance(7), 12 + 5);
    }

    private static void eventsLeft() {
        checks.sentence("11: How many EVENTS the latest RUN left.");
        CallWalker w = fortyEvents();
        checks.same("before one", w.events(), 0);
        for (int count : new int[] {0, 1, 39, 40}) {
            checks.same("run", w.run(0, 0, count, 600), 0);
            checks.same("left " + count, w.events(), count);
        }
        checks.same("a 41st", w.run(0, 0, 41, 600), PILE);
        checks.same("a 41st: none is left", w.events(), 0);
        w.run(0, 0, 40, 600);
        checks.same("a run that is BAD", w.run(0, 0, 0, 601), BAD);
        checks.same("a run that is BAD is not the latest", w.events(), 40);
    }

    private static void eventBad() {
        checks.sentence("12: Of EVENT i: what = 0 its CONTRACT. BAD: there is none such, what is not 0.");
        CallWalker w = Checks.with(PUT, 5, EVENT, 0, PUT, 0, PUT, 9, PUT, 0, CALL, 56);
        Checks.write(w, 7, 0, EVENT, 0);
        checks.same("before one", w.event(0, 0), BAD);
        w.run(0, 0, 0, 99);
        checks.same("the first", w.event(0, 0), 0);
        checks.same("the last", w.event(1, 0), 7);
        for (int i : new int[] {MIN, -1, 2, 39, 40, 41, MAX}) {
            checks.same("event " + i, w.event(i, 0), BAD);
            checks.same("event " + i + ", what 1", w.event(i, 1), BAD);
        }
        for (int what : new int[] {MIN, -1, 1, 2, MAX}) {
            checks.same("what " + what, w.event(1, what), BAD);
        }
        w = fortyEvents();
        w.run(0, 0, 40, 600);
        checks.same("the 40th", w.event(39, 0), 0);
        checks.same("a 41st", w.event(40, 0), BAD);
        w.run(0, 0, 0, 0);
        checks.same("none behind a run that failed", w.event(0, 0), BAD);
    }

    private static void valueOfNone() {
        checks.sentence("13: The NUMBER of EVENT i. IndexOutOfBoundsException: there is none such.");
        CallWalker w = Checks.with(EVENT, 0, PUT, 6, EVENT, 0);
        checks.noValue("before one", w, 0);
        for (long number : new long[] {LEAST, -1, 0, 1L << 32, MOST}) {
            w.run(0, 0, number, 99);
            checks.same("the first", w.value(0), number);
            checks.same("the last", w.value(1), 6);
        }
        for (int i : new int[] {MIN, -1, 2, 39, 40, 41, MAX}) {
            checks.noValue("value " + i, w, i);
        }
        checks.same("there still", w.value(1), 6);
        w = fortyEvents();
        w.run(0, 0, 40, 600);
        checks.same("the 40th", w.value(39), 1);
        checks.noValue("a 41st", w, 40);
        w.run(0, 0, 0, 0);
        checks.noValue("none behind a run that failed", w, 0);
    }
}
