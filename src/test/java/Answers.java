/** Answers that the document gives names or meanings to, and the ends of what an int can be. */
interface Answers {
    int BAD = -1, FULL = -2, NONE = -3, STATE = -4;
    int NO_ROW = -9, NOTHING = -11, OUTSIDE = -12, OTHER_SORT = -13, BELOW_0 = -14, PARTED_BY_0 = -15;
    int LOW = Integer.MIN_VALUE, HIGH = Integer.MAX_VALUE;
}
