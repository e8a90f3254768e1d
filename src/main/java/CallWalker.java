/**
 * Contracts that call one another. The document (../shared/DOC.md) says what each call answers;
 * the numbers of codes, failures and counts below are the document's own.
 */
public final class CallWalker {
    public static final int BAD = -1, FULL = -2, OUT = -3;

    private static final int CONTRACTS = 8, BEHAVIOURS = 6, LEAVES = 8;
    private static final int MOST_STEPS = 24, MOST_VALUES = 12, MOST_HANDLERS = 4, MOST_CALLS = 10;
    private static final int MOST_FAILURES = 10, MOST_EVENTS = 40, MOST_LIMIT = 600, MOST_ELEMENTS = 16;

    /** Far above what a run can need: a round takes a step, ends a call, or has one of 11 failures. */
    private static final int MOST_ROUNDS = 1000000;

    private static final int NONE = 0, ZERO = 1, NULL = 2, INDEX = 3, CAST = 4, SIZE = 5, OVER = 6;
    private static final int LIMIT = 7, GUARD = 8, FUNDS = 9, DEEP = 10, PILE = 11, CODE = 12, OWN = 13;

    /** The kinds of a value. */
    private static final int NUMBER = 0, LONGS = 1, INTS = 2, NOTHING = 3;

    /** The places of told(). */
    private static final int TAKEN = 0, FAILED = 1, DEEPEST = 2, WELL = 3, UNDONE = 4, COUNTS = 5;

    private static final int NO_CALLER = -1;

    /** How many values the step of each code takes from the pile, and how many it puts there. */
    private static final int[] TAKES = {
        0, 0, 1, 1, 1, 2, 2, 2, 2, 2, 2, 2, 2, 0, 1, 1, 1, 2, 2, 3, 3, 1, 0, 5, 0, 0, 0, 1, 1, 3, 0, 0
    };
    private static final int[] MAKES = {
        1, 1, 0, 2, 0, 2, 1, 1, 1, 1, 1, 1, 1, 0, 0, 1, 1, 1, 1, 0, 0, 1, 1, 0, 0, 0, 0, 0, 0, 1, 1, 1
    };

    private final Book book;
    private final Ledger ledger;
    private final Walk walk;

    public CallWalker() {
        book = new Book();
        ledger = new Ledger();
        walk = new Walk(book, ledger);
    }

    public int step(int contract, int behaviour, int code, int x) {
        if (!isBehaviour(contract, behaviour)) {
            return BAD;
        }
        Behaviour chosen = book.find(contract, behaviour);
        return chosen.append(code, x) ? chosen.count : FULL;
    }

    public int empty(int contract, int behaviour) {
        if (!isBehaviour(contract, behaviour)) {
            return BAD;
        }
        Behaviour chosen = book.find(contract, behaviour);
        int had = chosen.count;
        chosen.count = 0;
        return had;
    }

    public int guard(int contract, boolean on) {
        if (!isContract(contract)) {
            return BAD;
        }
        boolean was = book.guarded[contract];
        book.guarded[contract] = on;
        return was ? 1 : 0;
    }

    public int fund(int contract, long v) {
        if (!isContract(contract) || v < 0) {
            return BAD;
        }
        ledger.balances[contract] = v;
        return 1;
    }

    public int run(int contract, int behaviour, long argument, int limit) {
        if (!isBehaviour(contract, behaviour) || limit < 0 || limit > MOST_LIMIT) {
            return BAD;
        }
        return walk.go(contract, behaviour, argument, limit);
    }

    public long given() {
        return walk.result;
    }

    public int told(int what) {
        return what >= 0 && what < COUNTS ? walk.counts[what] : BAD;
    }

    public long leaf(int contract, int k) {
        return isContract(contract) && isLeaf(k) ? ledger.leaves[contract * LEAVES + k] : 0;
    }

    public long balance(int contract) {
        return isContract(contract) ? ledger.balances[contract] : 0;
    }

    public int events() {
        return ledger.eventCount;
    }

    public int event(int i, int what) {
        return ledger.hasEvent(i) && what == 0 ? ledger.eventContracts[i] : BAD;
    }

    public long value(int i) throws IndexOutOfBoundsException {
        if (!ledger.hasEvent(i)) {
            throw new IndexOutOfBoundsException("no such event");
        }
        return ledger.eventNumbers[i];
    }

    private static boolean isContract(int contract) {
        return contract >= 0 && contract < CONTRACTS;
    }

    private static boolean isBehaviour(int contract, int behaviour) {
        return isContract(contract) && behaviour >= 0 && behaviour < BEHAVIOURS;
    }

    private static boolean isLeaf(int k) {
        return k >= 0 && k < LEAVES;
    }

    private static boolean sumFits(long a, long b) {
        long sum = a + b;
        return ((a ^ sum) & (b ^ sum)) >= 0;
    }

    private static boolean differenceFits(long a, long b) {
        long difference = a - b;
        return ((a ^ b) & (a ^ difference)) >= 0;
    }

    private static boolean productFits(long a, long b) {
        if (a == 0) {
            return true;
        }
        // -1 by the lowest number wraps both in the product and in the division that would show it
        if (a == -1) {
            return b != Long.MIN_VALUE;
        }
        return a * b / a == b;
    }

    /** The steps of one behaviour. */
    private static final class Behaviour {
        final int[] codes = new int[MOST_STEPS];
        final int[] numbers = new int[MOST_STEPS];
        int count = 0;

        boolean append(int code, int x) {
            if (count >= MOST_STEPS) {
                return false;
            }
            codes[count] = code;
            numbers[count] = x;
            count++;
            return true;
        }

        /** The number of steps is a place too: the end. */
        boolean hasPlace(int x) {
            return x >= 0 && x <= count;
        }
    }

    /** What is written of the contracts, and no run changes. */
    private static final class Book {
        final Behaviour[] behaviours = new Behaviour[CONTRACTS * BEHAVIOURS];
        final boolean[] guarded = new boolean[CONTRACTS];

        Book() {
            for (int i = 0; i < CONTRACTS * BEHAVIOURS; i++) {
                behaviours[i] = new Behaviour();
            }
        }

        Behaviour find(int contract, int behaviour) {
            return behaviours[contract * BEHAVIOURS + behaviour];
        }
    }

    /** Leaves, balances and events, and how they were when each call under way was called. */
    private static final class Ledger {
        final long[] leaves = new long[CONTRACTS * LEAVES];
        final long[] balances = new long[CONTRACTS];
        final int[] eventContracts = new int[MOST_EVENTS];
        final long[] eventNumbers = new long[MOST_EVENTS];
        int eventCount = 0;
        final long[][] keptLeaves = new long[MOST_CALLS][CONTRACTS * LEAVES];
        final long[][] keptBalances = new long[MOST_CALLS][CONTRACTS];
        final int[] keptCounts = new int[MOST_CALLS];

        boolean hasEvent(int i) {
            return i >= 0 && i < eventCount;
        }

        boolean addEvent(int contract, long number) {
            if (eventCount >= MOST_EVENTS) {
                return false;
            }
            eventContracts[eventCount] = contract;
            eventNumbers[eventCount] = number;
            eventCount++;
            return true;
        }

        /** For a sum not below 0; one that comes back to where it was always fits. */
        boolean canMove(int from, int to, long sum) {
            return from == to || balances[to] <= Long.MAX_VALUE - sum;
        }

        void move(int from, int to, long sum) {
            balances[from] -= sum;
            balances[to] += sum;
        }

        void keep(int level) {
            System.arraycopy(leaves, 0, keptLeaves[level], 0, CONTRACTS * LEAVES);
            System.arraycopy(balances, 0, keptBalances[level], 0, CONTRACTS);
            keptCounts[level] = eventCount;
        }

        /** Events only ever come at the end, so their number is enough to undo them. */
        void restore(int level) {
            System.arraycopy(keptLeaves[level], 0, leaves, 0, CONTRACTS * LEAVES);
            System.arraycopy(keptBalances[level], 0, balances, 0, CONTRACTS);
            eventCount = keptCounts[level];
        }
    }

    /** The pile of a frame; what a step took can still be read until the step puts something. */
    private static final class Pile {
        final int[] kinds = new int[MOST_VALUES];
        final long[] numbers = new long[MOST_VALUES];
        int height = 0;
        int heightBefore = 0;

        boolean allows(int takes, int makes) {
            return height >= takes && height - takes + makes <= MOST_VALUES;
        }

        void take(int count) {
            heightBefore = height;
            height = Math.max(0, height - count);
        }

        /** The kind of the value that was taken behind k others. */
        int tookKind(int k) {
            int place = heightBefore - 1 - k;
            return place >= 0 && place < MOST_VALUES ? kinds[place] : NOTHING;
        }

        /** The number of that value, or of its row. */
        long took(int k) {
            int place = heightBefore - 1 - k;
            return place >= 0 && place < MOST_VALUES ? numbers[place] : 0;
        }

        boolean tookNumber(int k) {
            return tookKind(k) == NUMBER;
        }

        /** Answers NONE, so that a step can end with it. */
        int put(int kind, long number) {
            if (height < 0 || height >= MOST_VALUES) {
                return PILE;
            }
            kinds[height] = kind;
            numbers[height] = number;
            height++;
            return NONE;
        }

        int putNumber(long number) {
            return put(NUMBER, number);
        }

        /** The lowest number that no row on the pile has; -1 if there is none. */
        int freeRow() {
            int used = 0;
            for (int i = 0; i < height && i < MOST_VALUES; i++) {
                if (kinds[i] == LONGS || kinds[i] == INTS) {
                    used |= 1 << (int) numbers[i];
                }
            }
            for (int row = 0; row < MOST_VALUES; row++) {
                if ((used >> row & 1) == 0) {
                    return row;
                }
            }
            return -1;
        }
    }

    /**
     * The rows of a frame, and the steps on them. A row is never anywhere but on its frame's pile, so there
     * is room for as many as the pile has places, and a row that is not on the pile any more leaves its own.
     */
    private static final class Rows {
        final Pile pile;
        final long[] elements = new long[MOST_VALUES * MOST_ELEMENTS];
        final int[] lengths = new int[MOST_VALUES];

        Rows(Pile pile) {
            this.pile = pile;
        }

        int putNew(int kind) {
            if (!pile.tookNumber(0)) {
                return CAST;
            }
            long length = pile.took(0);
            if (length < 0) {
                return SIZE;
            }
            if (length > MOST_ELEMENTS) {
                return OVER;
            }
            int row = pile.freeRow();
            if (row < 0) {
                return PILE;
            }
            lengths[row] = (int) length;
            // what the row's place held before must not show
            for (int i = 0; i < length; i++) {
                elements[row * MOST_ELEMENTS + i] = 0;
            }
            return pile.put(kind, row);
        }

        /** A row of another frame comes, as a copy. */
        int putCopy(int kind, Rows others, long othersRow) {
            int row = pile.freeRow();
            if (row < 0) {
                return PILE;
            }
            lengths[row] = others.lengthOf(othersRow);
            if (lengths[row] > 0) {
                int from = others.placeOf(othersRow, 0);
                System.arraycopy(others.elements, from, elements, placeOf(row, 0), lengths[row]);
            }
            return pile.put(kind, row);
        }

        int putElement(int kind) {
            if (!pile.tookNumber(0)) {
                return CAST;
            }
            long i = pile.took(0);
            long row = pile.took(1);
            int failure = elementFailure(kind, pile.tookKind(1), row, i);
            return failure == NONE ? pile.putNumber(elements[placeOf(row, i)]) : failure;
        }

        int changeElement(int kind) {
            if (!pile.tookNumber(0) || !pile.tookNumber(1)) {
                return CAST;
            }
            long v = pile.took(0);
            long i = pile.took(1);
            long row = pile.took(2);
            int failure = elementFailure(kind, pile.tookKind(2), row, i);
            if (failure == NONE) {
                elements[placeOf(row, i)] = kind == INTS ? (int) v : v;
            }
            return failure;
        }

        /** What is wrong with element i of a value that should be a row of this kind. */
        private int elementFailure(int kind, int valueKind, long row, long i) {
            if (valueKind == NOTHING) {
                return NULL;
            }
            if (valueKind != kind) {
                return CAST;
            }
            return i >= 0 && i < lengthOf(row) ? NONE : INDEX;
        }

        int putLength() {
            if (pile.tookKind(0) == NOTHING) {
                return NULL;
            }
            if (pile.tookNumber(0)) {
                return CAST;
            }
            return pile.putNumber(lengthOf(pile.took(0)));
        }

        int copyElements() {
            if (!pile.tookNumber(0) || !pile.tookNumber(1) || !pile.tookNumber(3)) {
                return CAST;
            }
            if (pile.tookKind(2) == NOTHING || pile.tookKind(4) == NOTHING) {
                return NULL;
            }
            if (pile.tookNumber(2) || pile.tookKind(2) != pile.tookKind(4)) {
                return CAST;
            }
            long n = pile.took(0);
            long j = pile.took(1);
            long b = pile.took(2);
            long i = pile.took(3);
            long a = pile.took(4);
            if (!hasRange(a, i, n) || !hasRange(b, j, n)) {
                return INDEX;
            }
            if (n > 0) {
                System.arraycopy(elements, placeOf(a, i), elements, placeOf(b, j), (int) n);
            }
            return NONE;
        }

        private int lengthOf(long row) {
            return row >= 0 && row < MOST_VALUES ? lengths[(int) row] : 0;
        }

        /** Whether n elements from i on are all there. */
        private boolean hasRange(long row, long i, long n) {
            int length = lengthOf(row);
            return n >= 0 && i >= 0 && i <= length && n <= length - i;
        }

        /** Where an element stands that is there. */
        private int placeOf(long row, long i) {
            return (int) row * MOST_ELEMENTS + (int) i;
        }
    }

    /** One call under way; made once for each depth, and used again. */
    private static final class Frame {
        final Pile pile;
        final Rows rows;
        final int[] handlerSteps = new int[MOST_HANDLERS];
        final int[] handlerHeights = new int[MOST_HANDLERS];
        int handlers = 0;
        Behaviour behaviour;
        int contract = 0;
        int caller = NO_CALLER;
        int next = 0;
        /** The run's count of steps at which this call's limit is used up. */
        int stop = 0;

        Frame(Behaviour behaviour) {
            this.behaviour = behaviour;
            pile = new Pile();
            rows = new Rows(pile);
        }

        void begin(Behaviour called, int itsContract, int itsCaller, int itsStop) {
            behaviour = called;
            contract = itsContract;
            caller = itsCaller;
            stop = itsStop;
            next = 0;
            handlers = 0;
            pile.height = 0;
        }

        boolean isAtEnd() {
            return next < 0 || next >= behaviour.count;
        }

        int jump(int x) {
            if (!behaviour.hasPlace(x)) {
                return CODE;
            }
            next = x;
            return NONE;
        }

        int addHandler(int x) {
            if (!behaviour.hasPlace(x)) {
                return CODE;
            }
            // the failure's number must find room above the height that is kept here
            if (handlers >= MOST_HANDLERS || pile.height >= MOST_VALUES) {
                return PILE;
            }
            handlerSteps[handlers] = x;
            handlerHeights[handlers] = pile.height;
            handlers++;
            return NONE;
        }

        int dropHandler() {
            if (handlers <= 0) {
                return PILE;
            }
            handlers--;
            return NONE;
        }

        boolean handle(int failure) {
            if (handlers <= 0) {
                return false;
            }
            handlers--;
            pile.height = Math.min(pile.height, handlerHeights[handlers]);
            pile.putNumber(failure);
            next = handlerSteps[handlers];
            return true;
        }
    }

    /** The latest run: its calls under way, and what is told of it. */
    private static final class Walk {
        final Book book;
        final Ledger ledger;
        final Frame[] frames = new Frame[MOST_CALLS];
        final int[] counts = new int[COUNTS];
        int depth = 0;
        int answer = 0;
        long result = 0;

        Walk(Book book, Ledger ledger) {
            this.book = book;
            this.ledger = ledger;
            for (int i = 0; i < MOST_CALLS; i++) {
                frames[i] = new Frame(book.behaviours[0]);
            }
        }

        int go(int contract, int behaviour, long argument, int limit) {
            for (int i = 0; i < COUNTS; i++) {
                counts[i] = 0;
            }
            ledger.eventCount = 0;
            depth = 0;
            answer = 0;
            result = 0;
            Frame first = open(book.find(contract, behaviour), contract, NO_CALLER, limit);
            first.pile.putNumber(argument);
            for (int round = 0; round < MOST_ROUNDS && depth > 0; round++) {
                advance(frames[depth - 1]);
            }
            return answer;
        }

        /** Only for a depth below MOST_CALLS. */
        private Frame open(Behaviour behaviour, int contract, int caller, int limit) {
            ledger.keep(depth);
            Frame frame = frames[depth];
            frame.begin(behaviour, contract, caller, counts[TAKEN] + limit);
            depth++;
            counts[DEEPEST] = Math.max(counts[DEEPEST], depth);
            return frame;
        }

        private void advance(Frame frame) {
            if (frame.isAtEnd()) {
                endWell(0);
                return;
            }
            // a call's limit is never above its caller's, so the uppermost frame speaks for all
            if (counts[TAKEN] >= frame.stop) {
                fail(LIMIT);
                return;
            }
            counts[TAKEN]++;
            int place = frame.next;
            frame.next++;
            int failure = perform(frame, frame.behaviour.codes[place], frame.behaviour.numbers[place]);
            if (failure != NONE) {
                fail(failure);
            }
        }

        private void endWell(long number) {
            counts[WELL]++;
            depth--;
            if (depth > 0) {
                frames[depth - 1].pile.putNumber(number);
            } else {
                result = number;
            }
        }

        private void fail(int failure) {
            if (counts[FAILED] >= MOST_FAILURES) {
                undoTo(0);
                answer = OUT;
                return;
            }
            counts[FAILED]++;
            for (int level = depth; level > 0; level--) {
                if (frames[level - 1].handle(failure)) {
                    return;
                }
                undoTo(level - 1);
            }
            answer = failure;
        }

        /** Ends the calls above a depth as if they had not been. */
        private void undoTo(int level) {
            counts[UNDONE] += depth - level;
            ledger.restore(level);
            depth = level;
        }

        private int perform(Frame frame, int code, int x) {
            if (code < 0 || code >= TAKES.length || code >= MAKES.length) {
                return CODE;
            }
            Pile pile = frame.pile;
            if (!pile.allows(TAKES[code], MAKES[code])) {
                return PILE;
            }
            pile.take(TAKES[code]);
            switch (code) {
                case 0: return pile.putNumber(x);
                case 1: return putLeaf(frame, x);
                case 2: return changeLeaf(frame, x);
                case 3: return putTwice(pile);
                case 4: return NONE;
                case 5: return putSwapped(pile);
                case 13: return frame.jump(x);
                case 14: return jumpIfZero(frame, x);
                case 15: return frame.rows.putNew(LONGS);
                case 16: return frame.rows.putNew(INTS);
                case 17: return frame.rows.putElement(LONGS);
                case 18: return frame.rows.putElement(INTS);
                case 19: return frame.rows.changeElement(LONGS);
                case 20: return frame.rows.changeElement(INTS);
                case 21: return frame.rows.putLength();
                case 22: return pile.put(NOTHING, 0);
                case 23: return frame.rows.copyElements();
                case 24: return frame.addHandler(x);
                case 25: return frame.dropHandler();
                case 26: return x >= 0 && x <= 7 ? OWN + x : CODE;
                case 27: return giveBack(pile);
                case 28: return tellEvent(frame);
                case 29: return callOther(frame, x);
                case 30: return pile.putNumber(ledger.balances[frame.contract]);
                case 31: return pile.putNumber(frame.caller);
                default: return calculate(pile, code);
            }
        }

        private int putLeaf(Frame frame, int x) {
            if (!isLeaf(x)) {
                return CODE;
            }
            return frame.pile.putNumber(ledger.leaves[frame.contract * LEAVES + x]);
        }

        private int changeLeaf(Frame frame, int x) {
            if (!isLeaf(x)) {
                return CODE;
            }
            if (!frame.pile.tookNumber(0)) {
                return CAST;
            }
            ledger.leaves[frame.contract * LEAVES + x] = frame.pile.took(0);
            return NONE;
        }

        private static int putTwice(Pile pile) {
            int kind = pile.tookKind(0);
            long number = pile.took(0);
            pile.put(kind, number);
            return pile.put(kind, number);
        }

        private static int putSwapped(Pile pile) {
            int upperKind = pile.tookKind(0);
            long upper = pile.took(0);
            int lowerKind = pile.tookKind(1);
            long lower = pile.took(1);
            pile.put(upperKind, upper);
            return pile.put(lowerKind, lower);
        }

        /** The codes 6 .. 12. */
        private static int calculate(Pile pile, int code) {
            if (!pile.tookNumber(0) || !pile.tookNumber(1)) {
                return CAST;
            }
            long b = pile.took(0);
            long a = pile.took(1);
            switch (code) {
                case 6: return sumFits(a, b) ? pile.putNumber(a + b) : OVER;
                case 7: return differenceFits(a, b) ? pile.putNumber(a - b) : OVER;
                case 8: return productFits(a, b) ? pile.putNumber(a * b) : OVER;
                case 9: return b != 0 ? pile.putNumber(a / b) : ZERO;
                case 10: return b != 0 ? pile.putNumber(a % b) : ZERO;
                case 11: return pile.putNumber(a < b ? 1 : 0);
                case 12: return pile.putNumber(a == b ? 1 : 0);
                default: return CODE;
            }
        }

        private static int jumpIfZero(Frame frame, int x) {
            if (!frame.pile.tookNumber(0)) {
                return CAST;
            }
            // a step that is not there is refused whether or not it would be next
            if (!frame.behaviour.hasPlace(x)) {
                return CODE;
            }
            return frame.pile.took(0) == 0 ? frame.jump(x) : NONE;
        }

        private int giveBack(Pile pile) {
            if (!pile.tookNumber(0)) {
                return CAST;
            }
            endWell(pile.took(0));
            return NONE;
        }

        private int tellEvent(Frame frame) {
            if (!frame.pile.tookNumber(0)) {
                return CAST;
            }
            return ledger.addEvent(frame.contract, frame.pile.took(0)) ? NONE : PILE;
        }

        private int callOther(Frame frame, int x) {
            Pile pile = frame.pile;
            if (!pile.tookNumber(1) || !pile.tookNumber(2)) {
                return CAST;
            }
            long sum = pile.took(2);
            int failure = callFailure(frame.contract, sum, x);
            if (failure != NONE) {
                return failure;
            }
            int contract = x / 8;
            long left = frame.stop - counts[TAKEN];
            int limit = (int) Math.max(0L, Math.min(pile.took(1), left));
            Frame called = open(book.find(contract, x % 8), contract, frame.contract, limit);
            ledger.move(frame.contract, contract, sum);
            int kind = pile.tookKind(0);
            if (kind == LONGS || kind == INTS) {
                return called.rows.putCopy(kind, frame.rows, pile.took(0));
            }
            return called.pile.put(kind, pile.took(0));
        }

        /** Why a contract may not call behaviour x % 8 of contract x / 8 with this sum. */
        private int callFailure(int caller, long sum, int x) {
            if (sum < 0 || sum > ledger.balances[caller]) {
                return FUNDS;
            }
            if (x < 0 || !isBehaviour(x / 8, x % 8)) {
                return CODE;
            }
            if (book.guarded[x / 8] && isUnderWay(x / 8)) {
                return GUARD;
            }
            if (depth >= MOST_CALLS) {
                return DEEP;
            }
            return ledger.canMove(caller, x / 8, sum) ? NONE : OVER;
        }

        private boolean isUnderWay(int contract) {
            for (int i = 0; i < depth && i < MOST_CALLS; i++) {
                if (frames[i].contract == contract) {
                    return true;
                }
            }
            return false;
        }
    }
}
