/** What the tests share: comparing answers, and writing behaviours in one line. */
final class Checks {
    static final int ZERO = 1, NULL = 2, INDEX = 3, CAST = 4, SIZE = 5, OVER = 6, LIMIT = 7;
    static final int GUARD = 8, FUNDS = 9, DEEP = 10, PILE = 11, CODE = 12, OWN = 13;

    private int done = 0;
    private int wrong = 0;

    void same(String what, long got, long want) {
        done++;
        if (got != want) {
            wrong++;
            System.out.println(what + " answered " + got + ", due is " + want);
        }
    }

    /** value(i) must throw. */
    void noValue(String what, CallWalker walker, int i) {
        done++;
        try {
            long got = walker.value(i);
            wrong++;
            System.out.println(what + " answered " + got + ", due is an IndexOutOfBoundsException");
        } catch (IndexOutOfBoundsException due) {
            // this is what is due
        }
    }

    /** Writes a behaviour anew: code, x, code, x, .. */
    static void write(CallWalker walker, int contract, int behaviour, int... steps) {
        walker.empty(contract, behaviour);
        for (int i = 0; i + 1 < steps.length; i += 2) {
            if (walker.step(contract, behaviour, steps[i], steps[i + 1]) != i / 2 + 1) {
                throw new IllegalStateException("a test's step was not taken");
            }
        }
    }

    /** A new object, contract 0's behaviour 0 of which has these steps. */
    static CallWalker with(int... steps) {
        CallWalker walker = new CallWalker();
        write(walker, 0, 0, steps);
        return walker;
    }

    /** The steps, run on a new object with this argument, must give a number. */
    void gives(String what, long want, long argument, int... steps) {
        CallWalker walker = with(steps);
        same(what + ": run", walker.run(0, 0, argument, 600), 0);
        same(what + ": given", walker.given(), want);
    }

    /** The steps, run on a new object with this argument, must end by a failure. */
    void fails(String what, int want, long argument, int... steps) {
        CallWalker walker = with(steps);
        same(what + ": run", walker.run(0, 0, argument, 600), want);
        same(what + ": given", walker.given(), 0);
        same(what + ": told(1)", walker.told(1), 1);
    }

    void end() {
        System.out.println(done + " answers looked at, " + wrong + " not as due");
        if (wrong != 0) {
            System.exit(1);
        }
    }
}
