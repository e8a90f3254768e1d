/** Calls among contracts, handlers, limits and what is undone, as run() of promise 6 walks them. */
public final class CallsTest {
    private static final int CAST = Checks.CAST, OVER = Checks.OVER, LIMIT = Checks.LIMIT, GUARD = Checks.GUARD;
    private static final int FUNDS = Checks.FUNDS, DEEP = Checks.DEEP, PILE = Checks.PILE, CODE = Checks.CODE;
    private static final int MIN = Integer.MIN_VALUE, MAX = Integer.MAX_VALUE;

    private static final Checks checks = new Checks();

    public static void main(String[] args) {
        handlers();
        handlersAndThePile();
        limitAndHandlers();
        calls();
        callsThatAreNot();
        failuresInTheirOrder();
        guards();
        depth();
        sums();
        sumsThatDoNotFit();
        limits();
        rowsAtTheBorder();
        undoing();
        callsBack();
        eventsUndone();
        failuresOfSeveralCalls();
        checks.end();
    }

    private static void handlers() {
        checks.gives("24 the failure's number", 15, 0, 24, 2, 26, 2, 27, 0);
        checks.gives("24 the end", 0, 0, 24, 2, 26, 2);
        checks.gives("24 the latest one", 14, 0, 24, 3, 24, 4, 26, 1, 26, 5, 27, 0);
        checks.gives("24 then the other", 18, 0, 24, 4, 24, 3, 26, 1, 26, 5, 27, 0);
        checks.gives("25 the latest one goes", 14, 0, 24, 4, 24, 5, 25, 0, 26, 1, 27, 0, 26, 7);
        checks.fails("25 the only one goes", 14, 0, 24, 3, 25, 0, 26, 1, 27, 0);
        CallWalker w = Checks.with(24, 3, 26, 1, 26, 7, 26, 3);
        checks.same("24 is used once", w.run(0, 0, 0, 99), 16);
        checks.same("24 is used once", w.told(1), 2);
        checks.same("24 is not there in the next run", w.run(0, 0, 0, 99), 16);
        Checks.write(w, 0, 1, 24, 1, 0, 0);
        Checks.write(w, 0, 2, 26, 6);
        checks.same("24 stays behind", w.run(0, 1, 0, 99), 0);
        checks.same("24 stays behind", w.run(0, 2, 0, 99), 19);
        checks.same("24 stays behind", w.told(1), 1);
        checks.gives("24 four", 0, 0, 24, 0, 24, 0, 24, 0, 24, 0, 13, 5);
        checks.gives("24 a fifth", PILE, 0, 24, 5, 24, 5, 24, 5, 24, 5, 24, 0, 27, 0);
        checks.gives("24 a fifth, CODE first", CODE, 0, 24, 5, 24, 5, 24, 5, 24, 5, 24, 9, 27, 0);
        checks.gives("a code that is none", CODE, 0, 24, 2, 99, 0, 27, 0);
    }

    private static void handlersAndThePile() {
        checks.gives("what was above is gone", 5 + 16, 5, 24, 4, 0, 1, 0, 2, 26, 3, 6, 0, 27, 0);
        // TRY with 2 values, both go: only the number is there
        checks.gives("lower stays", 13, 5, 0, 2, 24, 5, 4, 0, 4, 0, 26, 0, 27, 0);
        CallWalker w = Checks.with(0, 2, 24, 5, 4, 0, 4, 0, 26, 0, 6, 0);
        checks.same("lower stays low", w.run(0, 0, 5, 99), PILE);
        // 11 values and a handler, then a 12th, then a 13th: the number stands on the 11
        int[] steps = new int[15 * 2];
        steps[10 * 2] = 24;
        steps[10 * 2 + 1] = 13;
        w = Checks.with(steps);
        checks.same("the number is the 12th", w.run(0, 0, 5, 99), PILE);
        checks.same("the number is the 12th", w.told(1), 2);
    }

    private static void limitAndHandlers() {
        CallWalker w = Checks.with(24, 2, 0, 0);
        checks.same("a handler at the end", w.run(0, 0, 0, 1), 0);
        checks.same("a handler at the end: steps", w.told(0), 1);
        checks.same("a handler at the end: failures", w.told(1), 1);
        checks.same("a handler at the end: well", w.told(3), 1);
        Checks.write(w, 0, 0, 24, 0, 24, 0, 24, 0, 2, 0);
        checks.same("handlers that have no step left", w.run(0, 0, 0, 3), LIMIT);
        checks.same("handlers that have no step left: steps", w.told(0), 3);
        checks.same("handlers that have no step left: failures", w.told(1), 4);
        checks.same("handlers that have no step left: undone", w.told(4), 1);
        checks.same("just enough", w.run(0, 0, 0, 4), 0);
        checks.same("just enough: failures", w.told(1), 0);
    }

    private static void calls() {
        CallWalker w = Checks.with(0, 0, 0, 99, 0, 6, 29, 7 * 8 + 5, 27, 0);
        Checks.write(w, 7, 5, 31, 0, 2, 0, 0, 7, 8, 0, 27, 0);
        checks.same("29", w.run(0, 0, 0, 99), 0);
        checks.same("29 gives", w.given(), 42);
        checks.same("31", w.leaf(7, 0), 0);
        w.empty(7, 5);
        checks.same("29 of no steps", w.run(0, 0, 0, 99), 0);
        checks.same("29 of no steps", w.given(), 0);
        checks.same("29 of no steps", w.told(3), 2);
        Checks.write(w, 5, 0, 0, 0, 0, 99, 0, 6, 29, 7 * 8 + 5);
        Checks.write(w, 7, 5, 31, 0, 2, 0);
        checks.same("31", w.run(5, 0, 0, 99), 0);
        checks.same("31", w.leaf(7, 0), 5);
        checks.same("31 by none", w.run(7, 5, 0, 99), 0);
        checks.same("31 by none", w.leaf(7, 0), -1);
        // itself, another behaviour
        Checks.write(w, 0, 0, 0, 0, 0, 99, 0, 6, 29, 1, 27, 0);
        Checks.write(w, 0, 1, 31, 0, 6, 0, 27, 0);
        checks.same("29 itself", w.run(0, 0, 0, 99), 0);
        checks.same("29 itself", w.given(), 6);
        Checks.write(w, 0, 0, 0, 0, 0, 99, 0, 6, 29, 0);
        checks.same("29 itself, the same behaviour", w.run(0, 0, 0, 99), DEEP);
        checks.same("29 itself, the same behaviour: steps", w.told(0), 40);
        // NOTHING as the VALUE
        Checks.write(w, 0, 0, 0, 0, 0, 99, 22, 0, 29, 1);
        Checks.write(w, 0, 1, 21, 0);
        checks.same("29 NOTHING", w.run(0, 0, 0, 99), Checks.NULL);
        // the caller's pile goes on where it was
        Checks.write(w, 0, 0, 0, 3, 0, 0, 0, 99, 0, 6, 29, 1, 7, 0, 7, 0, 27, 0);
        Checks.write(w, 0, 1, 0, 1, 0, 1, 0, 1, 0, 2, 27, 0);
        checks.same("29 its pile", w.run(0, 0, 10, 99), 0);
        checks.same("29 its pile", w.given(), 10 - (3 - 2));
    }

    private static void callsThatAreNot() {
        for (int x : new int[] {-1, -8, -9, 6, 7, 14, 62, 63, 64, 65, MIN, MAX}) {
            checks.fails("29 of " + x, CODE, 0, 0, 0, 0, 9, 0, 0, 29, x);
        }
        checks.fails("29 limit NOTHING", CAST, 0, 0, 0, 22, 0, 0, 0, 29, 8);
        checks.fails("29 sum NOTHING", CAST, 0, 22, 0, 0, 9, 0, 0, 29, 8);
        checks.fails("29 limit a row", CAST, 0, 0, 0, 0, 1, 15, 0, 0, 0, 29, 8);
        checks.fails("29 sum a row", CAST, 0, 15, 0, 0, 9, 0, 0, 29, 8);
        checks.fails("29 sum below 0", FUNDS, 0, 0, -1, 0, 9, 0, 0, 29, 8);
        checks.fails("29 sum above the balance", FUNDS, 0, 0, 1, 0, 9, 0, 0, 29, 8);
        // the three are gone: the number of the failure is alone, or stands on what was below
        checks.gives("29 takes three", 20 + CODE, 20, 0, 0, 0, 9, 0, 0, 24, 5, 29, -1, 6, 0, 27, 0);
    }

    private static void failuresInTheirOrder() {
        checks.fails("CAST ahead of FUNDS", CAST, 0, 0, -1, 22, 0, 0, 0, 29, -1);
        checks.fails("FUNDS ahead of CODE", FUNDS, 0, 0, 1, 0, 9, 0, 0, 29, -1);
        CallWalker w = Checks.with(0, 1, 0, 9, 0, 0, 29, 0);
        w.guard(0, true);
        checks.same("FUNDS ahead of GUARD", w.run(0, 0, 0, 99), FUNDS);
        Checks.write(w, 0, 0, 0, 0, 0, 9, 0, 0, 29, 6);
        checks.same("CODE ahead of GUARD", w.run(0, 0, 0, 99), CODE);
    }

    private static void guards() {
        CallWalker w = Checks.with(0, 0, 0, 99, 0, 0, 29, 1, 0, 4, 27, 0);
        checks.same("itself, not guarded", w.run(0, 0, 0, 99), 0);
        w.guard(0, true);
        checks.same("itself, guarded", w.run(0, 0, 0, 99), GUARD);
        checks.same("itself, guarded: most", w.told(2), 1);
        // guarded, but not under way any more
        Checks.write(w, 1, 0, 0, 0, 0, 99, 0, 0, 29, 1, 0, 0, 0, 99, 0, 0, 29, 1);
        checks.same("one behind the other", w.run(1, 0, 0, 99), 0);
        checks.same("one behind the other: well", w.told(3), 3);
        // 0 calls 1 calls 0
        Checks.write(w, 0, 0, 0, 0, 0, 99, 0, 0, 29, 8);
        checks.same("back", w.run(0, 0, 0, 99), GUARD);
        checks.same("back: undone", w.told(4), 2);
        w.guard(0, false);
        w.guard(1, true);
        checks.same("back, another guarded", w.run(0, 0, 0, 99), 0);
        // what failed is not under way either
        w.guard(2, true);
        Checks.write(w, 1, 0, 24, 5, 0, 0, 0, 99, 0, 0, 29, 16, 0, 0, 0, 99, 0, 0, 29, 17, 27, 0);
        Checks.write(w, 2, 0, 26, 0);
        Checks.write(w, 2, 1, 0, 3, 27, 0);
        checks.same("after a failure", w.run(1, 0, 0, 99), 0);
        checks.same("after a failure", w.given(), 3);
    }

    /** Contract 1 calls itself as often as it is told, then calls x with a sum of 1 if it has one. */
    private static void writeDeep(CallWalker w, int x) {
        Checks.write(w, 1, 0, 3, 0, 14, 10, 0, 1, 7, 0, 0, 0, 5, 0, 0, 600, 5, 0, 29, 8, 27, 0,
            30, 0, 0, 600, 0, 0, 29, x, 27, 0);
        Checks.write(w, 0, 1, 0, 77, 27, 0);
    }

    private static void depth() {
        CallWalker w = new CallWalker();
        writeDeep(w, 1);
        checks.same("9 and one", w.run(1, 0, 8, 600), 0);
        checks.same("9 and one: given", w.given(), 77);
        checks.same("9 and one: most", w.told(2), 10);
        checks.same("9 and one: well", w.told(3), 10);
        checks.same("10 and one", w.run(1, 0, 9, 600), DEEP);
        checks.same("10 and one: most", w.told(2), 10);
        checks.same("10 and one: undone", w.told(4), 10);
        checks.same("10 and one: failures", w.told(1), 1);
        checks.same("far", w.run(1, 0, 99, 600), DEEP);
        w.guard(1, true);
        Checks.write(w, 1, 1);
        checks.same("guarded", w.run(1, 0, 9, 600), GUARD);
        w.guard(1, false);
        w.guard(0, true);
        writeDeep(w, 1);
        Checks.write(w, 0, 0, 0, 0, 0, 600, 0, 8, 29, 8, 27, 0);
        checks.same("GUARD ahead of DEEP", w.run(0, 0, 0, 600), GUARD);
        w.guard(0, false);
        checks.same("DEEP", w.run(0, 0, 0, 600), DEEP);
        writeDeep(w, -1);
        checks.same("CODE ahead of DEEP", w.run(0, 0, 0, 600), CODE);
        writeDeep(w, 1);
        w.fund(1, 1);
        w.fund(0, Long.MAX_VALUE);
        checks.same("DEEP ahead of OVER", w.run(1, 0, 9, 600), DEEP);
        checks.same("OVER", w.run(1, 0, 8, 600), OVER);
    }

    private static void sums() {
        CallWalker w = Checks.with(0, 30, 0, 99, 0, 0, 29, 8, 2, 0, 30, 0, 2, 1);
        Checks.write(w, 1, 0, 30, 0, 27, 0);
        w.fund(0, 30);
        w.fund(1, 5);
        checks.same("a sum", w.run(0, 0, 0, 99), 0);
        checks.same("a sum: what is there in the call", w.leaf(0, 0), 35);
        checks.same("a sum: what is left", w.leaf(0, 1), 0);
        checks.same("a sum: from", w.balance(0), 0);
        checks.same("a sum: to", w.balance(1), 35);
        checks.same("no more of it", w.run(0, 0, 0, 99), FUNDS);
        w.fund(0, 30);
        Checks.write(w, 1, 0, 26, 0);
        checks.same("a sum that comes back", w.run(0, 0, 0, 99), 13);
        checks.same("a sum that comes back: from", w.balance(0), 30);
        checks.same("a sum that comes back: to", w.balance(1), 35);
        Checks.write(w, 0, 0, 24, 5, 0, 30, 0, 99, 0, 0, 29, 8, 30, 0, 2, 1);
        checks.same("a sum that comes back to a handler", w.run(0, 0, 0, 99), 0);
        checks.same("a sum that comes back to a handler", w.leaf(0, 1), 30);
        Checks.write(w, 0, 0, 0, 30, 0, 99, 0, 0, 29, 1, 27, 0);
        Checks.write(w, 0, 1, 30, 0, 27, 0);
        checks.same("a sum to itself", w.run(0, 0, 0, 99), 0);
        checks.same("a sum to itself: in the call", w.given(), 30);
        checks.same("a sum to itself: behind it", w.balance(0), 30);
    }

    private static void sumsThatDoNotFit() {
        CallWalker w = Checks.with(24, 5, 0, 1, 0, 99, 0, 0, 29, 8, 27, 0);
        w.fund(0, 1);
        w.fund(1, Long.MAX_VALUE);
        checks.same("OVER", w.run(0, 0, 0, 99), 0);
        checks.same("OVER", w.given(), OVER);
        checks.same("OVER: from", w.balance(0), 1);
        checks.same("OVER: to", w.balance(1), Long.MAX_VALUE);
        checks.same("OVER: no call", w.told(2), 1);
        checks.same("OVER: none undone", w.told(4), 0);
        w.fund(1, Long.MAX_VALUE - 1);
        checks.same("it just fits", w.run(0, 0, 0, 99), 0);
        checks.same("it just fits", w.balance(1), Long.MAX_VALUE);
        w.fund(0, Long.MAX_VALUE);
        Checks.write(w, 0, 0, 30, 0, 0, 99, 0, 0, 29, 1, 27, 0);
        checks.same("all to itself", w.run(0, 0, 0, 99), 0);
        checks.same("all to itself", w.balance(0), Long.MAX_VALUE);
    }

    /** 0 calls 1 with a limit, which takes its steps without an end; a handler of 0 gives the failure. */
    private static void limited(int limit, int whole, int answer, int steps, int failures) {
        CallWalker w = Checks.with(24, 5, 0, 0, 0, limit, 0, 0, 29, 8, 27, 0);
        Checks.write(w, 1, 0, 13, 0);
        String what = "limit " + limit + " of " + whole;
        checks.same(what, w.run(0, 0, 0, whole), answer);
        checks.same(what + ": given", w.given(), answer == 0 ? LIMIT : 0);
        checks.same(what + ": steps", w.told(0), steps);
        checks.same(what + ": failures", w.told(1), failures);
    }

    private static void limits() {
        limited(10, 99, 0, 16, 1);
        limited(1, 99, 0, 7, 1);
        limited(0, 99, 0, 6, 1);
        limited(-1, 99, 0, 6, 1);
        limited(MIN, 99, 0, 6, 1);
        limited(MAX, 99, LIMIT, 99, 2);
        limited(94, 99, LIMIT, 99, 2);
        limited(93, 99, 0, 99, 1);
        limited(10, 5, LIMIT, 5, 2);
        limited(10, 4, LIMIT, 4, 2);
        // its calls' steps are among its own: 1 has 6, and takes 4 until 2 begins
        CallWalker w = Checks.with(24, 5, 0, 0, 0, 6, 0, 0, 29, 8, 27, 0);
        Checks.write(w, 1, 0, 0, 0, 0, 50, 0, 0, 29, 16, 27, 0);
        Checks.write(w, 2, 0, 0, 1, 27, 0);
        checks.same("among its own", w.run(0, 0, 0, 99), 0);
        checks.same("among its own: given", w.given(), LIMIT);
        checks.same("among its own: steps", w.told(0), 5 + 4 + 2 + 1);
        checks.same("among its own: well", w.told(3), 2);
        checks.same("among its own: undone", w.told(4), 1);
        // a long limit is not cut to 32 bits
        w = Checks.with(2, 0, 0, 0, 1, 0, 0, 0, 29, 8, 27, 0);
        Checks.write(w, 1, 0, 0, 5, 27, 0);
        checks.same("1 << 32", w.run(0, 0, 1L << 32, 99), 0);
        checks.same("1 << 32", w.given(), 5);
        checks.same("the least", w.run(0, 0, Long.MIN_VALUE, 99), LIMIT);
        w.empty(1, 0);
        checks.same("no limit, no steps", w.run(0, 0, -5, 99), 0);
    }

    private static void rowsAtTheBorder() {
        for (int kind = 0; kind <= 1; kind++) {
            // 0 keeps a row with 6 in place 1, and calls 1 with it, which makes 9 of that
            CallWalker w = Checks.with(4, 0, 0, 0, 0, 99, 0, 2, 15 + kind, 0, 3, 0, 0, 1, 0, 6, 19 + kind, 0,
                29, 8, 27, 0);
            Checks.write(w, 1, 0, 0, 1, 17 + kind, 0, 27, 0);
            checks.same("a row's elements", w.run(0, 0, 0, 99), 0);
            checks.same("a row's elements", w.given(), 6);
            Checks.write(w, 1, 0, 0, 1, 18 - kind, 0, 27, 0);
            checks.same("a row's kind", w.run(0, 0, 0, 99), CAST);
            Checks.write(w, 1, 0, 21, 0, 27, 0);
            checks.same("a row's length", w.run(0, 0, 0, 99), 0);
            checks.same("a row's length", w.given(), 2);
            // pile: row; row, sum -> sum, row by changing places; so the row stays below
            Checks.write(w, 0, 0, 15 + kind, 0, 3, 0, 0, 1, 0, 6, 19 + kind, 0, 3, 0, 0, 0, 5, 0, 0, 99, 5, 0,
                29, 8, 4, 0, 0, 1, 17 + kind, 0, 27, 0);
            Checks.write(w, 1, 0, 3, 0, 0, 1, 0, 9, 19 + kind, 0, 0, 1, 17 + kind, 0, 2, 0);
            checks.same("a row is a copy", w.run(0, 0, 2, 99), 0);
            checks.same("a row is a copy: here", w.given(), 6);
            checks.same("a row is a copy: there", w.leaf(1, 0), 9);
        }
        for (int length = 0; length <= 16; length++) {
            CallWalker w = Checks.with(0, 0, 0, 99, 0, length, 15, 0, 3, 0, 0, length - 1, 0, 6, 19, 0, 29, 8, 27, 0);
            Checks.write(w, 1, 0, 0, length - 1, 17, 0, 27, 0);
            checks.same("the last of " + length, w.run(0, 0, 0, 99), length == 0 ? Checks.INDEX : 0);
            checks.same("the last of " + length, w.given(), length == 0 ? 0 : 6);
            Checks.write(w, 0, 0, 0, 0, 0, 99, 0, length, 16, 0, 29, 8, 27, 0);
            Checks.write(w, 1, 0, 21, 0, 27, 0);
            checks.same("how many of " + length, w.run(0, 0, 0, 99), 0);
            checks.same("how many of " + length, w.given(), length);
        }
        // within a frame there is one row: what comes once more is the same
        checks.gives("one row", 4, 2, 15, 0, 3, 0, 3, 0, 0, 0, 0, 4, 19, 0, 4, 0, 0, 0, 17, 0, 27, 0);
        // a row that was changed stays so, when a handler comes
        checks.gives("a handler leaves rows", 4, 2, 15, 0, 24, 7, 3, 0, 0, 0, 0, 4, 19, 0, 26, 0, 4, 0, 0, 0, 17, 0,
            27, 0);
    }

    private static void undoing() {
        // 0 sets its leaf, calls 1, which sets its own, has 2 set its own and pays it, and fails
        CallWalker w = Checks.with(0, 1, 2, 0, 24, 7, 0, 5, 0, 99, 0, 0, 29, 8, 1, 0, 6, 0, 27, 0);
        Checks.write(w, 1, 0, 0, 2, 2, 0, 0, 3, 0, 50, 0, 0, 29, 16, 26, 4);
        Checks.write(w, 2, 0, 0, 3, 2, 0, 0, 8, 28, 0);
        w.fund(0, 9);
        checks.same("undone", w.run(0, 0, 0, 99), 0);
        checks.same("undone: the handler sees its leaf, and why", w.given(), 17 + 1);
        checks.same("undone: leaf 0", w.leaf(0, 0), 1);
        checks.same("undone: leaf 1", w.leaf(1, 0), 0);
        checks.same("undone: leaf 2, though its call ended well", w.leaf(2, 0), 0);
        checks.same("undone: balance 0", w.balance(0), 9);
        checks.same("undone: balance 1", w.balance(1), 0);
        checks.same("undone: balance 2", w.balance(2), 0);
        checks.same("undone: events", w.events(), 0);
        checks.same("undone: well", w.told(3), 2);
        checks.same("undone: undone", w.told(4), 1);
        // the same without a failure
        Checks.write(w, 1, 0, 0, 2, 2, 0, 0, 3, 0, 50, 0, 0, 29, 16, 27, 0);
        checks.same("done", w.run(0, 0, 0, 99), 0);
        checks.same("done: leaf 1", w.leaf(1, 0), 2);
        checks.same("done: leaf 2", w.leaf(2, 0), 3);
        checks.same("done: balances", w.balance(0) * 100 + w.balance(1) * 10 + w.balance(2), 423);
        checks.same("done: events", w.events(), 1);
        // what the last contract had before is there again
        w = Checks.with(24, 5, 0, 0, 0, 99, 0, 4, 29, 7 * 8);
        Checks.write(w, 7, 1, 2, 7);
        Checks.write(w, 7, 0, 2, 7, 26, 0);
        checks.same("the last leaf", w.run(7, 1, 55, 99), 0);
        checks.same("the last leaf, undone", w.run(0, 0, 0, 99), 0);
        checks.same("the last leaf, undone: failures", w.told(1), 1);
        checks.same("the last leaf, undone: there again", w.leaf(7, 7), 55);
        // a handler within the frame undoes nothing of it
        checks.gives("a handler undoes nothing", 5, 5, 24, 3, 2, 0, 26, 0, 4, 0, 1, 0, 27, 0);
        // the run's own call is undone, too
        w = Checks.with(2, 0, 0, 1, 28, 0, 0, 1, 0, 9, 0, 0, 29, 8, 26, 0);
        w.fund(0, 1);
        checks.same("the whole run", w.run(0, 0, 5, 99), 13);
        checks.same("the whole run: leaf", w.leaf(0, 0), 0);
        checks.same("the whole run: balance", w.balance(0), 1);
        checks.same("the whole run: the other's", w.balance(1), 0);
        checks.same("the whole run: events", w.events(), 0);
    }

    private static void callsBack() {
        // 0 adds 1 to its leaf, calls 1, which calls 0's behaviour 1 (adds 10) and then may fail
        CallWalker w = Checks.with(1, 0, 0, 1, 6, 0, 2, 0, 24, 9, 0, 0, 0, 99, 0, 0, 29, 8, 1, 0, 27, 0);
        Checks.write(w, 0, 1, 1, 0, 0, 10, 6, 0, 2, 0);
        Checks.write(w, 1, 0, 0, 0, 0, 99, 0, 0, 29, 1);
        checks.same("back", w.run(0, 0, 0, 99), 0);
        checks.same("back: seen behind the call", w.given(), 11);
        Checks.write(w, 1, 0, 0, 0, 0, 99, 0, 0, 29, 1, 26, 0);
        checks.same("back, undone", w.run(0, 0, 0, 99), 0);
        checks.same("back, undone: seen by the handler", w.given(), 12);
        checks.same("back, undone", w.leaf(0, 0), 12);
    }

    private static void eventsUndone() {
        // 0 tells 1, calls 1 that tells 2 and fails, tells 3
        CallWalker w = Checks.with(0, 1, 28, 0, 24, 7, 0, 0, 0, 99, 0, 2, 29, 8, 4, 0, 0, 3, 28, 0);
        Checks.write(w, 1, 0, 28, 0, 26, 0);
        checks.same("events", w.run(0, 0, 0, 99), 0);
        checks.same("events", w.events(), 2);
        checks.same("events: the first", w.value(0), 1);
        checks.same("events: the next", w.value(1), 3);
        checks.same("events: its contract", w.event(1, 0), 0);
        // 40 in all, those that were undone not among them: 1 tells 40 and fails, then 0 tells one
        Checks.write(w, 1, 0, 0, 40, 3, 0, 14, 8, 3, 0, 28, 0, 0, 1, 7, 0, 13, 1, 26, 0);
        Checks.write(w, 0, 0, 24, 5, 0, 0, 0, 400, 0, 2, 29, 8, 0, 3, 28, 0);
        checks.same("40 undone", w.run(0, 0, 0, 600), 0);
        checks.same("40 undone: failures", w.told(1), 1);
        checks.same("40 undone: events", w.events(), 1);
        // 40 of 1 leave no room for one of 0
        Checks.write(w, 1, 0, 0, 40, 3, 0, 14, 8, 3, 0, 28, 0, 0, 1, 7, 0, 13, 1, 0, 0);
        Checks.write(w, 0, 0, 24, 7, 0, 0, 0, 400, 0, 2, 29, 8, 0, 3, 28, 0);
        checks.same("40 in all", w.run(0, 0, 0, 600), 0);
        checks.same("40 in all: failures", w.told(1), 1);
        checks.same("40 in all: events", w.events(), 40);
        checks.same("40 in all: contract", w.event(39, 0), 1);
    }

    private static void failuresOfSeveralCalls() {
        // 1 fails once each time; 0 calls it until it is OUT
        CallWalker w = Checks.with(24, 5, 0, 0, 0, 99, 0, 0, 29, 8, 4, 0, 13, 0);
        Checks.write(w, 1, 0, 26, 0);
        checks.same("out", w.run(0, 0, 0, 600), CallWalker.OUT);
        checks.same("out: failures", w.told(1), 10);
        checks.same("out: undone", w.told(4), 10 + 2);
        checks.same("out: steps", w.told(0), 10 * 8 + 6);
        // a limit's failure is counted with the others
        Checks.write(w, 1, 0, 13, 0);
        Checks.write(w, 0, 0, 24, 5, 0, 0, 0, 3, 0, 0, 29, 8, 4, 0, 13, 0);
        checks.same("out by limits", w.run(0, 0, 0, 600), CallWalker.OUT);
        checks.same("out by limits: steps", w.told(0), 10 * 10 + 8);
        checks.same("a run behind it", w.run(2, 0, 0, 600), 0);
        checks.same("a run behind it: failures", w.told(1), 0);
    }
}
