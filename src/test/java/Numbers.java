/** The document's numbers, told here anew, so that a constant of the class that is not as told is found. */
interface Numbers {
    int UNKNOWN = -1, OUTSIDE = -2, STATE = -3, FULL = -4, NONE = -9;
    long LOST = Long.MIN_VALUE;
    int NULL = 1, CAST = 2, INDEX = 3, SIZE = 4;
    int MOST_CALLS = 512;
}
