import java.util.ArrayList;
import java.util.List;

/**
 * Random contracts, run both by CallWalker and by a model that is as unlike it as it can be: recursion,
 * Java's own exceptions and arrays, and copies of the whole state.
 */
public final class ModelTest {
    private static final Object NOTHING = new Object();

    private static final class Failure extends RuntimeException {
        final int number;

        Failure(int number) {
            super(null, null, false, false);
            this.number = number;
        }
    }

    private static final class Out extends RuntimeException {
        Out() {
            super(null, null, false, false);
        }
    }

    /** A step whose RETURN ends the call. */
    private static final class Return extends RuntimeException {
        final long number;

        Return(long number) {
            super(null, null, false, false);
            this.number = number;
        }
    }

    private static final class State {
        long[][] leaves = new long[8][8];
        long[] balances = new long[8];
        List<long[]> events = new ArrayList<>();

        State copy() {
            State copy = new State();
            for (int i = 0; i < 8; i++) {
                copy.leaves[i] = leaves[i].clone();
            }
            copy.balances = balances.clone();
            copy.events = new ArrayList<>(events);
            return copy;
        }
    }

    private static final class Call {
        int contract;
        int caller;
        List<int[]> steps;
        List<Object> pile = new ArrayList<>();
        List<int[]> handlers = new ArrayList<>();
        long left;
        int next = 0;

        Object pop() {
            return pile.remove(pile.size() - 1);
        }

        long number(Object value) {
            if (value instanceof Long) {
                return (Long) value;
            }
            throw new Failure(Checks.CAST);
        }
    }

    private static final class Model {
        final List<List<List<int[]>>> book = new ArrayList<>();
        final boolean[] guarded = new boolean[8];
        State state = new State();
        final List<Call> under = new ArrayList<>();
        int[] told = new int[5];
        long given = 0;

        Model() {
            for (int i = 0; i < 8; i++) {
                book.add(new ArrayList<>());
                for (int j = 0; j < 6; j++) {
                    book.get(i).add(new ArrayList<>());
                }
            }
        }

        int run(int contract, int behaviour, long argument, int limit) {
            told = new int[5];
            given = 0;
            state.events.clear();
            State before = state.copy();
            under.clear();
            try {
                given = call(contract, behaviour, -1, argument, limit, 0);
                return 0;
            } catch (Failure f) {
                return f.number;
            } catch (Out o) {
                told[4] += under.size();
                state = before;
                return CallWalker.OUT;
            }
        }

        RuntimeException arise(int number) {
            if (told[1] == 10) {
                return new Out();
            }
            told[1]++;
            return new Failure(number);
        }

        long call(int contract, int behaviour, int caller, Object value, long limit, long sum) {
            State before = state.copy();
            if (caller >= 0) {
                state.balances[caller] -= sum;
                state.balances[contract] += sum;
            }
            Call call = new Call();
            call.contract = contract;
            call.caller = caller;
            call.steps = book.get(contract).get(behaviour);
            call.pile.add(value);
            call.left = limit;
            under.add(call);
            told[2] = Math.max(told[2], under.size());
            try {
                long number = walk(call);
                under.remove(under.size() - 1);
                told[3]++;
                return number;
            } catch (Failure f) {
                under.remove(under.size() - 1);
                told[4]++;
                state = before;
                throw f;
            }
        }

        long walk(Call call) {
            while (call.next < call.steps.size()) {
                int number = 0;
                try {
                    boolean none = call.left == 0;
                    if (none) {
                        throw arise(Checks.LIMIT);
                    }
                    for (Call each : under) {
                        each.left--;
                    }
                    told[0]++;
                    int[] step = call.steps.get(call.next);
                    call.next++;
                    if (step[0] == 29) {
                        other(call, step[1]);
                    } else {
                        take(call, step[0], step[1]);
                    }
                } catch (Return r) {
                    return r.number;
                } catch (Failure f) {
                    number = f.number;
                    if (call.handlers.isEmpty()) {
                        throw f;
                    }
                }
                if (number != 0) {
                    int[] handler = call.handlers.remove(call.handlers.size() - 1);
                    while (call.pile.size() > handler[1]) {
                        call.pop();
                    }
                    call.pile.add((long) number);
                    call.next = handler[0];
                }
            }
            return 0;
        }

        /** A step that is no call: its failures arise here. */
        void take(Call call, int code, int x) {
            try {
                heights(call, code);
                one(call, code, x);
            } catch (Failure f) {
                throw arise(f.number);
            } catch (ArrayIndexOutOfBoundsException e) {
                throw arise(Checks.INDEX);
            } catch (ArithmeticException e) {
                throw arise(code == 9 || code == 10 ? Checks.ZERO : Checks.OVER);
            }
        }

        void heights(Call call, int code) {
            int have = call.pile.size();
            boolean low;
            boolean high = false;
            switch (code) {
                case 0: case 1: case 22: case 30: case 31: low = false; high = have == 12; break;
                case 3: low = have == 0; high = have == 12; break;
                case 2: case 4: case 14: case 15: case 16: case 21: case 27: case 28: low = have < 1; break;
                case 5: case 6: case 7: case 8: case 9: case 10: case 11: case 12: case 17: case 18:
                    low = have < 2; break;
                case 19: case 20: case 29: low = have < 3; break;
                case 23: low = have < 5; break;
                case 13: case 24: case 25: case 26: low = false; break;
                default: throw new Failure(Checks.CODE);
            }
            if (low || high) {
                throw new Failure(Checks.PILE);
            }
        }

        void check(boolean good, int failure) {
            if (!good) {
                throw new Failure(failure);
            }
        }

        void one(Call call, int code, int x) {
            List<Object> pile = call.pile;
            if (code >= 6 && code <= 12) {
                Object b = call.pop();
                Object a = call.pop();
                pile.add(calculated(code, call.number(a), call.number(b)));
            } else if (code >= 15 && code <= 21 || code == 23) {
                rows(call, code);
            } else {
                other(call, code, x);
            }
        }

        long calculated(int code, long a, long b) {
            switch (code) {
                case 6: return Math.addExact(a, b);
                case 7: return Math.subtractExact(a, b);
                case 8: return Math.multiplyExact(a, b);
                case 9: return a / b;
                case 10: return a % b;
                case 11: return a < b ? 1L : 0L;
                default: return a == b ? 1L : 0L;
            }
        }

        void rows(Call call, int code) {
            List<Object> pile = call.pile;
            if (code == 15 || code == 16) {
                long n = call.number(call.pop());
                check(n >= 0, Checks.SIZE);
                check(n <= 16, Checks.OVER);
                pile.add(code == 15 ? (Object) new long[(int) n] : (Object) new int[(int) n]);
            } else if (code == 17 || code == 18) {
                Object place = call.pop();
                Object row = call.pop();
                long i = call.number(place);
                check(row != NOTHING, Checks.NULL);
                check(code == 17 ? row instanceof long[] : row instanceof int[], Checks.CAST);
                int index = (int) Math.max(-1, Math.min(99, i));
                pile.add(code == 17 ? ((long[]) row)[index] : (long) ((int[]) row)[index]);
            } else if (code == 19 || code == 20) {
                Object what = call.pop();
                Object place = call.pop();
                Object row = call.pop();
                long v = call.number(what);
                long i = call.number(place);
                check(row != NOTHING, Checks.NULL);
                check(code == 19 ? row instanceof long[] : row instanceof int[], Checks.CAST);
                int index = (int) Math.max(-1, Math.min(99, i));
                if (code == 19) {
                    ((long[]) row)[index] = v;
                } else {
                    ((int[]) row)[index] = (int) v;
                }
            } else if (code == 21) {
                Object row = call.pop();
                check(row != NOTHING, Checks.NULL);
                check(!(row instanceof Long), Checks.CAST);
                pile.add(row instanceof long[] ? (long) ((long[]) row).length : (long) ((int[]) row).length);
            } else {
                Object n = call.pop();
                Object j = call.pop();
                Object b = call.pop();
                Object i = call.pop();
                Object a = call.pop();
                int count = (int) Math.max(-1, Math.min(99, call.number(n)));
                int to = (int) Math.max(-1, Math.min(99, call.number(j)));
                int from = (int) Math.max(-1, Math.min(99, call.number(i)));
                check(a != NOTHING && b != NOTHING, Checks.NULL);
                check(!(a instanceof Long) && a.getClass() == b.getClass(), Checks.CAST);
                System.arraycopy(a, from, b, to, count);
            }
        }

        void other(Call call, int code, int x) {
            List<Object> pile = call.pile;
            int steps = call.steps.size();
            switch (code) {
                case 0: pile.add((long) x); break;
                case 1: check(x >= 0 && x < 8, Checks.CODE); pile.add(state.leaves[call.contract][x]); break;
                case 2: {
                    Object v = call.pop();
                    check(x >= 0 && x < 8, Checks.CODE);
                    state.leaves[call.contract][x] = call.number(v);
                    break;
                }
                case 3: pile.add(pile.get(pile.size() - 1)); break;
                case 4: call.pop(); break;
                case 5: pile.add(pile.size() - 2, call.pop()); break;
                case 13: check(x >= 0 && x <= steps, Checks.CODE); call.next = x; break;
                case 14: {
                    long asked = call.number(call.pop());
                    check(x >= 0 && x <= steps, Checks.CODE);
                    call.next = asked == 0 ? x : call.next;
                    break;
                }
                case 22: pile.add(NOTHING); break;
                case 24:
                    check(x >= 0 && x <= steps, Checks.CODE);
                    check(call.handlers.size() < 4 && pile.size() < 12, Checks.PILE);
                    call.handlers.add(new int[] {x, pile.size()});
                    break;
                case 25:
                    check(!call.handlers.isEmpty(), Checks.PILE);
                    call.handlers.remove(call.handlers.size() - 1);
                    break;
                case 26: check(x >= 0 && x < 8, Checks.CODE); throw new Failure(13 + x);
                case 27: throw new Return(call.number(call.pop()));
                case 28: {
                    long v = call.number(call.pop());
                    check(state.events.size() < 40, Checks.PILE);
                    state.events.add(new long[] {call.contract, v});
                    break;
                }
                case 30: pile.add(state.balances[call.contract]); break;
                default: pile.add((long) call.caller); break;
            }
        }

        /** The call itself: what fails in it has arisen there. */
        void other(Call call, int x) {
            Object value;
            long limit;
            long sum;
            try {
                heights(call, 29);
                value = call.pop();
                Object second = call.pop();
                Object third = call.pop();
                limit = call.number(second);
                sum = call.number(third);
                check(sum >= 0 && sum <= state.balances[call.contract], Checks.FUNDS);
                check(x >= 0 && x < 64 && x % 8 < 6, Checks.CODE);
                check(!guarded[x / 8] || under.stream().noneMatch(c -> c.contract == x / 8), Checks.GUARD);
                check(under.size() < 10, Checks.DEEP);
                if (x / 8 != call.contract) {
                    Math.addExact(state.balances[x / 8], sum);
                }
            } catch (Failure f) {
                throw arise(f.number);
            } catch (ArithmeticException e) {
                throw arise(Checks.OVER);
            }
            if (value instanceof long[]) {
                value = ((long[]) value).clone();
            } else if (value instanceof int[]) {
                value = ((int[]) value).clone();
            }
            long number = call(x / 8, x % 8, call.contract, value, Math.max(0, Math.min(limit, call.left)), sum);
            call.pile.add(number);
        }
    }

    /** The same numbers in every run of the test. */
    private static final class Numbers {
        private long seed;

        Numbers(long seed) {
            this.seed = seed;
        }

        int below(int bound) {
            seed = seed * 6364136223846793005L + 1442695040888963407L;
            return (int) ((seed >>> 33) % bound);
        }

        int of(int... choices) {
            return choices[below(choices.length)];
        }
    }

    private static final int[] EDGES = {
        -1, 0, 0, 1, 1, 2, 3, 5, 7, 8, 15, 16, 17, 24, 40, 64, Integer.MAX_VALUE, Integer.MIN_VALUE
    };

    /** Runs of steps that belong together, so that random behaviours come far. */
    private static int[] snippet(Numbers numbers) {
        int place = numbers.below(26) - 1;
        int small = numbers.below(5);
        int target = numbers.below(3) * 8 + numbers.below(3);
        switch (numbers.below(20)) {
            case 0: return new int[] {24, place};
            case 1: return new int[] {24, place, 0, small};
            case 2: case 3: case 4: case 5:
                return new int[] {0, numbers.of(0, 0, 0, 1, 5, -1), 0, numbers.of(10, 30, 100, 600, 0, -4),
                    3, 0, 29, target};
            case 6: return new int[] {0, numbers.below(8), 0, 200, numbers.of(0, 22, 30), 7, 29, target};
            case 7: return new int[] {0, numbers.below(7), numbers.of(15, 16), 0};
            case 8: return new int[] {0, small, 15, 0, 3, 0, 0, small - 1, 0, numbers.of(EDGES), 19, 0};
            case 9: return new int[] {0, small, 16, 0, 3, 0, 0, small - 1, 1, numbers.below(8), 20, 0};
            case 10: return new int[] {3, 0, 0, numbers.below(4), 17, 0, 2, numbers.below(8)};
            case 11: return new int[] {3, 0, 0, numbers.below(4), 18, 0, 2, numbers.below(8)};
            case 12: return new int[] {3, 0, 3, 0, 0, small, 5, 0, 0, numbers.below(3), 0, numbers.below(4), 23, 0};
            case 13: return new int[] {1, small, 0, 1, 6, 0, 2, small};
            case 14: return new int[] {0, small, 28, 0};
            case 15: return new int[] {1, small, 0, 9, numbers.of(6, 7, 8, 8, 9, 10, 11, 12), 0, 2, small};
            case 16: return new int[] {1, small, 3, 0, 8, 0, 0, 3, 6, 0, 2, small};
            case 17: return new int[] {0, small, 14, place};
            case 18: return new int[] {numbers.of(26, 27, 25, 13), numbers.below(9)};
            default: return new int[] {numbers.below(34) - 1, numbers.of(EDGES)};
        }
    }

    /** One object beside its model, for no more calls than the document answers for. */
    private static final class Trial {
        private static final int MOST_CALLS = 512;
        private static final int TO_FUND_AND_GUARD = 6, TO_WRITE = 1 + 24;
        private static final int TO_RUN_AND_COMPARE = 1 + 1 + 5 + 8 + 64 + 1 + 2 * 40;

        final String name;
        final Numbers numbers;
        final Checks checks;
        final CallWalker walker = new CallWalker();
        final Model model = new Model();
        final int[] seen;
        final int[] deep;
        int calls = 0;

        Trial(int seed, Checks checks, int[] seen, int[] deep) {
            name = "seed " + seed;
            numbers = new Numbers(seed);
            this.checks = checks;
            this.seen = seen;
            this.deep = deep;
        }

        void same(String what, long got, long want) {
            calls++;
            checks.same(name + " call " + calls + " " + what, got, want);
        }

        boolean hasRoomFor(int more) {
            return calls + more <= MOST_CALLS;
        }

        void go() {
            for (int contract = 0; contract < 3; contract++) {
                for (int behaviour = 0; behaviour < 3; behaviour++) {
                    if (numbers.below(8) != 0) {
                        write(contract, behaviour, 1 + numbers.below(20));
                    }
                }
            }
            fundAndGuard();
            while (hasRoomFor(TO_RUN_AND_COMPARE)) {
                runAndCompare();
                if (numbers.below(3) == 0 && hasRoomFor(TO_FUND_AND_GUARD)) {
                    fundAndGuard();
                }
                if (numbers.below(3) == 0 && hasRoomFor(TO_WRITE)) {
                    write(numbers.below(3), numbers.below(3), 1 + numbers.below(24));
                }
            }
            checks.same(name + " used the object more often than is promised", hasRoomFor(0) ? 1 : 0, 1);
        }

        void write(int contract, int behaviour, int wanted) {
            List<int[]> steps = model.book.get(contract).get(behaviour);
            same("empty", walker.empty(contract, behaviour), steps.size());
            steps.clear();
            while (steps.size() < wanted) {
                int[] some = snippet(numbers);
                for (int i = 0; i < some.length && steps.size() < 24; i += 2) {
                    steps.add(new int[] {some[i], some[i + 1]});
                    same("step", walker.step(contract, behaviour, some[i], some[i + 1]), steps.size());
                }
            }
        }

        void fundAndGuard() {
            for (int contract = 0; contract < 3; contract++) {
                long sum = numbers.below(20) == 0 ? Long.MAX_VALUE : numbers.below(30);
                same("fund", walker.fund(contract, sum), 1);
                model.state.balances[contract] = sum;
                boolean on = numbers.below(4) == 0;
                same("guard", walker.guard(contract, on), model.guarded[contract] ? 1 : 0);
                model.guarded[contract] = on;
            }
        }

        void runAndCompare() {
            int contract = numbers.below(3);
            int behaviour = numbers.below(3);
            long argument = numbers.of(EDGES) * (numbers.below(8) == 0 ? 1L << 33 : 1L);
            int limit = numbers.of(0, 5, 20, 60, 200, 600, 600, 600);
            int want = model.run(contract, behaviour, argument, limit);
            same("run", walker.run(contract, behaviour, argument, limit), want);
            seen[want + 3]++;
            deep[model.told[2]]++;
            same("given", walker.given(), model.given);
            for (int i = 0; i < 5; i++) {
                same("told " + i, walker.told(i), model.told[i]);
            }
            for (int i = 0; i < 8; i++) {
                same("balance " + i, walker.balance(i), model.state.balances[i]);
                for (int k = 0; k < 8; k++) {
                    same("leaf " + i + " " + k, walker.leaf(i, k), model.state.leaves[i][k]);
                }
            }
            compareEvents();
        }

        void compareEvents() {
            int count = walker.events();
            same("events", count, model.state.events.size());
            for (int i = 0; i < model.state.events.size() && i < count; i++) {
                same("event " + i, walker.event(i, 0), model.state.events.get(i)[0]);
                same("value " + i, walker.value(i), model.state.events.get(i)[1]);
            }
        }
    }

    public static void main(String[] args) {
        Checks checks = new Checks();
        int[] seen = new int[32];
        int[] deep = new int[11];
        for (int seed = 1; seed <= 80000; seed++) {
            new Trial(seed, checks, seen, deep).go();
        }
        StringBuilder ends = new StringBuilder("answers -3 .. 20 were seen so often:");
        for (int i = 0; i <= 23; i++) {
            ends.append(' ').append(seen[i]);
        }
        ends.append("; depths 1 .. 10:");
        for (int i = 1; i <= 10; i++) {
            ends.append(' ').append(deep[i]);
        }
        System.out.println(ends);
        checks.end();
    }
}
