/** The document's numbers by name: the codes of the steps, and the failures. */
interface Names {
    int PUT = 0, LEAF = 1, SET = 2, AGAIN = 3, DROP = 4, SWAP = 5;
    int ADD = 6, SUBTRACT = 7, MULTIPLY = 8, DIVIDE = 9, REST = 10, BELOW = 11, LIKE = 12;
    int JUMP = 13, JUMP_IF_ZERO = 14;
    int NEW_LONGS = 15, NEW_INTS = 16, GET_LONG = 17, GET_INT = 18, SET_LONG = 19, SET_INT = 20, LENGTH = 21;
    int NOTHING = 22, COPY = 23;
    int TRY = 24, UNTRY = 25, FAIL = 26, RETURN = 27, EVENT = 28, CALL = 29, BALANCE = 30, CALLER = 31;

    int ZERO = 1, NULL = 2, INDEX = 3, CAST = 4, SIZE = 5, OVER = 6, LIMIT = 7;
    int GUARD = 8, FUNDS = 9, DEEP = 10, PILE = 11, CODE = 12, OWN = 13;
}
