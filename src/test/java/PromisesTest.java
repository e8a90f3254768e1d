/** Promises 1 to 13, call by call: ordinary inputs, edges, wrong inputs. */
public final class PromisesTest {
    private static final int BAD = CallWalker.BAD, FULL = CallWalker.FULL, OUT = CallWalker.OUT;
    private static final int[] NO_CONTRACTS = {-1, 8, Integer.MIN_VALUE, Integer.MAX_VALUE};
    private static final int[] NO_BEHAVIOURS = {-1, 6, 7, Integer.MIN_VALUE, Integer.MAX_VALUE};

    private static final Checks checks = new Checks();

    public static void main(String[] args) {
        newObject();
        step();
        empty();
        guard();
        fund();
        run();
        runChangesNothingIfBad();
        given();
        told();
        toldAtOut();
        leaf();
        balance();
        events();
        eventsOfEarlierRuns();
        objectsAreApart();
        checks.end();
    }

    private static void newObject() {
        CallWalker w = new CallWalker();
        for (int c = 0; c < 8; c++) {
            checks.same("1 balance " + c, w.balance(c), 0);
            for (int k = 0; k < 8; k++) {
                checks.same("1 leaf " + c + " " + k, w.leaf(c, k), 0);
            }
            for (int b = 0; b < 6; b++) {
                checks.same("1 empty " + c + " " + b, w.empty(c, b), 0);
            }
            checks.same("1 guard " + c, w.guard(c, false), 0);
        }
        checks.same("1 events", w.events(), 0);
        checks.same("1 given", w.given(), 0);
        for (int what = 0; what < 5; what++) {
            checks.same("1 told " + what, w.told(what), 0);
        }
    }

    private static void step() {
        CallWalker w = new CallWalker();
        for (int c : NO_CONTRACTS) {
            checks.same("2 contract " + c, w.step(c, 0, 0, 0), BAD);
        }
        for (int b : NO_BEHAVIOURS) {
            checks.same("2 behaviour " + b, w.step(0, b, 0, 0), BAD);
        }
        for (int i = 1; i <= 24; i++) {
            checks.same("2 step " + i, w.step(7, 5, i % 2 == 0 ? Integer.MIN_VALUE : 999, -i), i);
        }
        checks.same("2 a 25th", w.step(7, 5, 0, 0), FULL);
        checks.same("2 a 26th", w.step(7, 5, 0, 0), FULL);
        checks.same("2 BAD ahead of FULL", w.step(8, 5, 0, 0), BAD);
        checks.same("2 its neighbour", w.step(7, 4, 0, 0), 1);
        checks.same("2 the other neighbour", w.step(6, 5, 0, 0), 1);
        checks.same("2 still 24", w.empty(7, 5), 24);
        checks.gives("2 the steps' order", 12, 0, 0, 1, 0, 2, 0, 5, 8, 0, 0, 2, 6, 0, 27, 0);
    }

    private static void empty() {
        CallWalker w = new CallWalker();
        for (int c : NO_CONTRACTS) {
            checks.same("3 contract " + c, w.empty(c, 0), BAD);
        }
        for (int b : NO_BEHAVIOURS) {
            checks.same("3 behaviour " + b, w.empty(0, b), BAD);
        }
        Checks.write(w, 3, 2, 0, 8, 27, 0);
        Checks.write(w, 3, 3, 0, 9, 27, 0);
        checks.same("3 empty", w.empty(3, 2), 2);
        checks.same("3 empty again", w.empty(3, 2), 0);
        checks.same("3 its run", w.run(3, 2, 5, 9), 0);
        checks.same("3 gives 0", w.given(), 0);
        checks.same("3 its neighbour's run", w.run(3, 3, 5, 9), 0);
        checks.same("3 gives 9", w.given(), 9);
        checks.same("3 anew", w.step(3, 2, 0, 1), 1);
    }

    private static void guard() {
        CallWalker w = new CallWalker();
        for (int c : NO_CONTRACTS) {
            checks.same("4 contract " + c, w.guard(c, true), BAD);
        }
        checks.same("4 on", w.guard(7, true), 0);
        checks.same("4 on again", w.guard(7, true), 1);
        checks.same("4 off", w.guard(7, false), 1);
        checks.same("4 off again", w.guard(7, false), 0);
        checks.same("4 another", w.guard(6, false), 0);
    }

    private static void fund() {
        CallWalker w = new CallWalker();
        for (int c : NO_CONTRACTS) {
            checks.same("5 contract " + c, w.fund(c, 1), BAD);
        }
        checks.same("5 fund", w.fund(2, 77), 1);
        checks.same("5 below 0", w.fund(2, -1), BAD);
        checks.same("5 far below 0", w.fund(2, Long.MIN_VALUE), BAD);
        checks.same("5 as it was", w.balance(2), 77);
        checks.same("5 the most", w.fund(2, Long.MAX_VALUE), 1);
        checks.same("5 the most", w.balance(2), Long.MAX_VALUE);
        checks.same("5 none", w.fund(2, 0), 1);
        checks.same("5 none", w.balance(2), 0);
    }

    private static void run() {
        CallWalker w = Checks.with(27, 0);
        for (int c : NO_CONTRACTS) {
            checks.same("6 contract " + c, w.run(c, 0, 1, 1), BAD);
        }
        for (int b : NO_BEHAVIOURS) {
            checks.same("6 behaviour " + b, w.run(0, b, 1, 1), BAD);
        }
        for (int limit : new int[] {-1, 601, Integer.MIN_VALUE, Integer.MAX_VALUE}) {
            checks.same("6 limit " + limit, w.run(0, 0, 1, limit), BAD);
        }
        checks.same("6 limit 0", w.run(0, 0, 1, 0), Checks.LIMIT);
        checks.same("6 limit 0, no steps", w.run(0, 1, 1, 0), 0);
        checks.same("6 limit 600", w.run(0, 0, Long.MIN_VALUE, 600), 0);
        checks.same("6 the argument", w.given(), Long.MIN_VALUE);
        Checks.write(w, 7, 5, 31, 0, 27, 0);
        checks.same("6 the last of all", w.run(7, 5, 1, 2), 0);
        checks.same("6 called by none", w.given(), -1);
        Checks.write(w, 0, 0, 13, 0);
        checks.same("6 without an end", w.run(0, 0, 1, 600), Checks.LIMIT);
        checks.same("6 600 steps", w.told(0), 600);
        for (int own = 0; own < 8; own++) {
            Checks.write(w, 0, 0, 26, own);
            checks.same("6 own " + own, w.run(0, 0, 1, 600), 13 + own);
        }
    }

    private static void runChangesNothingIfBad() {
        CallWalker w = Checks.with(0, 4, 28, 0, 0, 6, 27, 0);
        w.run(0, 0, 1, 600);
        for (int limit : new int[] {-1, 601}) {
            checks.same("6 BAD", w.run(0, 0, 1, limit), BAD);
            checks.same("6 BAD given", w.given(), 6);
            checks.same("6 BAD told", w.told(0), 4);
            checks.same("6 BAD events", w.events(), 1);
            checks.same("6 BAD value", w.value(0), 4);
        }
    }

    private static void given() {
        CallWalker w = Checks.with(27, 0);
        w.run(0, 0, 44, 10);
        checks.same("7 given", w.given(), 44);
        checks.same("7 given again", w.given(), 44);
        w.run(0, 0, 45, 0);
        checks.same("7 by a failure", w.given(), 0);
        w.run(0, 0, 46, 10);
        Checks.write(w, 0, 0, 0, 9);
        w.run(0, 0, 46, 10);
        checks.same("7 behind the last step", w.given(), 0);
        Checks.write(w, 0, 1, 27, 0);
        w.run(0, 1, 47, 10);
        Checks.write(w, 0, 0, 24, 0, 26, 0);
        checks.same("7 out", w.run(0, 0, 46, 600), OUT);
        checks.same("7 given at OUT", w.given(), 0);
    }

    private static void told() {
        CallWalker w = new CallWalker();
        checks.same("8 -1", w.told(-1), BAD);
        checks.same("8 5", w.told(5), BAD);
        checks.same("8 far", w.told(Integer.MAX_VALUE), BAD);
        checks.same("8 far below", w.told(Integer.MIN_VALUE), BAD);
        // contract 0 calls 1, which calls 2; then 0 calls 3, which fails, and 0 goes on
        Checks.write(w, 0, 0, 0, 0, 0, 99, 0, 0, 29, 8, 24, 9, 0, 0, 0, 99, 0, 0, 29, 24, 27, 0);
        Checks.write(w, 1, 0, 0, 0, 0, 99, 0, 0, 29, 16);
        Checks.write(w, 2, 0, 4, 0);
        Checks.write(w, 3, 0, 4, 0, 26, 0);
        checks.same("8 run", w.run(0, 0, 0, 600), 0);
        checks.same("8 given", w.given(), 13);
        checks.same("8 steps", w.told(0), 10 + 4 + 1 + 2);
        checks.same("8 failures", w.told(1), 1);
        checks.same("8 most", w.told(2), 3);
        checks.same("8 well", w.told(3), 3);
        checks.same("8 undone", w.told(4), 1);
        w.run(2, 1, 0, 0);
        checks.same("8 anew: steps", w.told(0), 0);
        checks.same("8 anew: failures", w.told(1), 0);
        checks.same("8 anew: most", w.told(2), 1);
        checks.same("8 anew: well", w.told(3), 1);
        checks.same("8 anew: undone", w.told(4), 0);
        // a failure that goes through three calls is one failure
        Checks.write(w, 1, 0, 0, 0, 0, 99, 0, 0, 29, 24);
        Checks.write(w, 0, 0, 0, 0, 0, 99, 0, 0, 29, 8);
        checks.same("8 through", w.run(0, 0, 0, 600), 13);
        checks.same("8 through: failures", w.told(1), 1);
        checks.same("8 through: well", w.told(3), 0);
        checks.same("8 through: undone", w.told(4), 3);
        // a step that may not call has called nothing
        Checks.write(w, 0, 0, 0, 1, 0, 99, 0, 0, 29, 8);
        checks.same("8 no funds", w.run(0, 0, 0, 600), Checks.FUNDS);
        checks.same("8 no funds: most", w.told(2), 1);
        checks.same("8 no funds: undone", w.told(4), 1);
    }

    private static void toldAtOut() {
        // 0 funds 1 and tells an event; 1 calls 2, which fails without an end
        CallWalker w = new CallWalker();
        w.fund(0, 10);
        Checks.write(w, 0, 0, 0, 8, 2, 3, 0, 8, 28, 0, 0, 4, 0, 500, 0, 0, 29, 8, 27, 0);
        Checks.write(w, 1, 0, 0, 0, 0, 400, 0, 0, 29, 17, 0, 0, 0, 400, 0, 0, 29, 16);
        Checks.write(w, 2, 0, 24, 0, 26, 1);
        Checks.write(w, 2, 1, 0, 1, 27, 0);
        checks.same("8 out", w.run(0, 0, 0, 600), OUT);
        checks.same("8 out: steps", w.told(0), 8 + 4 + 2 + 4 + 22);
        checks.same("8 out: failures", w.told(1), 10);
        checks.same("8 out: most", w.told(2), 3);
        checks.same("8 out: well", w.told(3), 1);
        checks.same("8 out: undone", w.told(4), 3);
        checks.same("8 out: given", w.given(), 0);
        checks.same("8 out: leaf", w.leaf(0, 3), 0);
        checks.same("8 out: balance", w.balance(0), 10);
        checks.same("8 out: the other balance", w.balance(1), 0);
        checks.same("8 out: events", w.events(), 0);
        // ten failures are fine
        Checks.write(w, 0, 0, 24, 6, 1, 0, 0, 1, 7, 0, 2, 0, 26, 2, 4, 0, 1, 0, 0, -10, 12, 0, 14, 0, 0, 6, 27, 0);
        checks.same("8 ten", w.run(0, 0, 0, 600), 0);
        checks.same("8 ten: failures", w.told(1), 10);
        checks.same("8 ten: given", w.given(), 6);
        checks.same("8 ten: leaf", w.leaf(0, 0), -10);
    }

    private static void leaf() {
        CallWalker w = Checks.with(2, 7, 0, -9, 2, 0);
        checks.same("9 run", w.run(0, 0, Long.MIN_VALUE, 9), 0);
        checks.same("9 leaf 7", w.leaf(0, 7), Long.MIN_VALUE);
        checks.same("9 leaf 0", w.leaf(0, 0), -9);
        checks.same("9 leaf 1", w.leaf(0, 1), 0);
        checks.same("9 of another", w.leaf(1, 0), 0);
        for (int c : NO_CONTRACTS) {
            checks.same("9 contract " + c, w.leaf(c, 0), 0);
        }
        for (int k : new int[] {-1, 8, 15, Integer.MIN_VALUE, Integer.MAX_VALUE}) {
            checks.same("9 leaf " + k, w.leaf(0, k), 0);
            checks.same("9 leaf " + k, w.leaf(1, k), 0);
        }
        w.run(0, 0, 3, 9);
        checks.same("9 by now", w.leaf(0, 7), 3);
        checks.same("9 undone", w.run(0, 0, 4, 2), Checks.LIMIT);
        checks.same("9 as before", w.leaf(0, 7), 3);
    }

    private static void balance() {
        CallWalker w = new CallWalker();
        for (int c = 0; c < 8; c++) {
            w.fund(c, 100 + c);
        }
        for (int c = 0; c < 8; c++) {
            checks.same("10 balance " + c, w.balance(c), 100 + c);
        }
        for (int c : NO_CONTRACTS) {
            checks.same("10 contract " + c, w.balance(c), 0);
        }
    }

    private static void events() {
        CallWalker w = Checks.with(28, 0, 0, -2, 28, 0, 0, 0, 0, 99, 0, 5, 29, 7 * 8 + 5, 0, 7, 28, 0);
        Checks.write(w, 7, 5, 28, 0);
        checks.same("11 run", w.run(0, 0, Long.MAX_VALUE, 99), 0);
        checks.same("11 events", w.events(), 4);
        long[] contracts = {0, 0, 7, 0};
        long[] values = {Long.MAX_VALUE, -2, 5, 7};
        for (int i = 0; i < 4; i++) {
            checks.same("12 event " + i, w.event(i, 0), contracts[i]);
            checks.same("13 value " + i, w.value(i), values[i]);
            checks.same("12 what -1", w.event(i, -1), BAD);
            checks.same("12 what 1", w.event(i, 1), BAD);
        }
        for (int i : new int[] {-1, 4, 39, 40, Integer.MIN_VALUE, Integer.MAX_VALUE}) {
            checks.same("12 event " + i, w.event(i, 0), BAD);
            checks.same("12 event " + i, w.event(i, 1), BAD);
            checks.noValue("13 value " + i, w, i);
        }
        checks.same("11 still", w.events(), 4);
    }

    private static void eventsOfEarlierRuns() {
        CallWalker w = Checks.with(28, 0);
        checks.noValue("13 before a run", w, 0);
        w.run(0, 0, 1, 9);
        checks.same("11 one", w.events(), 1);
        w.run(0, 0, 2, 9);
        checks.same("11 one anew", w.events(), 1);
        checks.same("13 of the latest", w.value(0), 2);
        w.run(0, 0, 3, 0);
        checks.same("11 none by a failure", w.events(), 0);
        checks.noValue("13 none by a failure", w, 0);
        w.run(0, 0, 4, 9);
        Checks.write(w, 0, 0, 24, 0, 26, 0);
        checks.same("11 out", w.run(0, 0, 4, 600), OUT);
        checks.same("11 none by OUT", w.events(), 0);
        w.step(1, 0, 28, 0);
        w.run(1, 0, 4, 9);
        w.fund(0, 3);
        w.guard(0, true);
        w.empty(1, 0);
        checks.same("11 other calls leave them", w.events(), 1);
        checks.same("12 other calls leave them", w.event(0, 0), 1);
    }

    private static void objectsAreApart() {
        CallWalker one = Checks.with(2, 0, 0, 1, 28, 0);
        CallWalker other = new CallWalker();
        one.run(0, 0, 5, 9);
        one.fund(0, 5);
        one.guard(0, true);
        checks.same("1 apart: leaf", other.leaf(0, 0), 0);
        checks.same("1 apart: balance", other.balance(0), 0);
        checks.same("1 apart: events", other.events(), 0);
        checks.same("1 apart: guard", other.guard(0, false), 0);
        checks.same("1 apart: steps", other.empty(0, 0), 0);
    }
}
