/** What the tests share: comparing answers, and writing behaviours in one line. */
final class Checks implements Names {
    private int done = 0;
    private int wrong = 0;
    private int sentences = 0;
    private String sentence = "";

    /** What follows looks at this sentence of the document. */
    void sentence(String words) {
        sentences++;
        sentence = "\"" + words + "\": ";
    }

    void same(String what, long got, long want) {
        done++;
        if (got != want) {
            wrong++;
            System.out.println(sentence + what + " answered " + got + ", due is " + want);
        }
    }

    void sameText(String what, String got, String want) {
        done++;
        if (!got.equals(want)) {
            wrong++;
            System.out.println(sentence + what + " is\n  " + got + ", due is\n  " + want);
        }
    }

    /** value(i) must throw, and not what the machine would throw by itself. */
    void noValue(String what, CallWalker walker, int i) {
        done++;
        String got;
        try {
            got = Long.toString(walker.value(i));
        } catch (RuntimeException thrown) {
            got = thrown.getClass().getSimpleName();
        }
        if (!got.equals("IndexOutOfBoundsException")) {
            wrong++;
            System.out.println(sentence + what + " answered " + got + ", due is an IndexOutOfBoundsException");
        }
    }

    /** Writes a behaviour anew: code, x, code, x, .. */
    static void write(CallWalker walker, int contract, int behaviour, int... steps) {
        walker.empty(contract, behaviour);
        for (int i = 0; i + 1 < steps.length; i += 2) {
            if (walker.step(contract, behaviour, steps[i], steps[i + 1]) != i / 2 + 1) {
                throw new IllegalStateException("a test's step was not taken");
            }
        }
    }

    /** A new object, contract 0's behaviour 0 of which has these steps. */
    static CallWalker with(int... steps) {
        CallWalker walker = new CallWalker();
        write(walker, 0, 0, steps);
        return walker;
    }

    static int[] join(int[]... parts) {
        int length = 0;
        for (int[] part : parts) {
            length += part.length;
        }
        int[] all = new int[length];
        int at = 0;
        for (int[] part : parts) {
            System.arraycopy(part, 0, all, at, part.length);
            at += part.length;
        }
        return all;
    }

    /** The same step so often. */
    static int[] often(int times, int code, int x) {
        int[] steps = new int[2 * times];
        for (int i = 0; i < steps.length; i += 2) {
            steps[i] = code;
            steps[i + 1] = x;
        }
        return steps;
    }

    /** All that an object tells without being changed by it. */
    static String read(CallWalker walker) {
        StringBuilder all = new StringBuilder("given ").append(walker.given()).append(" told");
        for (int what = 0; what < 5; what++) {
            all.append(' ').append(walker.told(what));
        }
        for (int contract = 0; contract < 8; contract++) {
            all.append("; ").append(walker.balance(contract)).append(':');
            for (int k = 0; k < 8; k++) {
                all.append(' ').append(walker.leaf(contract, k));
            }
        }
        all.append("; events");
        for (int i = 0; i < walker.events(); i++) {
            all.append(' ').append(walker.event(i, 0)).append('=').append(walker.value(i));
        }
        return all.toString();
    }

    /** The steps, run on a new object with this argument, must give a number. */
    void gives(String what, long want, long argument, int... steps) {
        CallWalker walker = with(steps);
        same(what + ": run", walker.run(0, 0, argument, 600), 0);
        same(what + ": given", walker.given(), want);
    }

    /** The steps, run on a new object with this argument, must end by a failure. */
    void fails(String what, int want, long argument, int... steps) {
        CallWalker walker = with(steps);
        same(what + ": run", walker.run(0, 0, argument, 600), want);
        same(what + ": given", walker.given(), 0);
        same(what + ": told(1)", walker.told(1), 1);
    }

    /**
     * Steps the last of which fails, behind a TRY that comes after those ahead of it: which failure its handler sees,
     * and how many values are left below that failure's number. They are counted by dropping them, until a second
     * handler ends the run.
     */
    void leaves(String what, CallWalker walker, int failure, int height, int[] ahead, int... behind) {
        int handler = (ahead.length + behind.length) / 2 + 2;
        write(walker, 0, 0, join(new int[] {TRY, handler + 3}, ahead, new int[] {TRY, handler}, behind,
            new int[] {SET, 0, DROP, 0, JUMP, handler + 1}));
        same(what + ": run", walker.run(0, 0, 77, 600), 0);
        same(what + ": the failure", walker.leaf(0, 0), failure);
        same(what + ": failures", walker.told(1), 2);
        same(what + ": steps, by how many values were left", walker.told(0), handler + 1 + 2 * height + 1);
    }

    void end() {
        if (sentences > 0) {
            System.out.print(sentences + " sentences, ");
        }
        System.out.println(done + " answers looked at, " + wrong + " not as due");
        if (wrong != 0) {
            System.exit(1);
        }
    }
}
