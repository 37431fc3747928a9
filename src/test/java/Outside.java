/** What the document refuses as an argument: the nearest numbers outside, and the farthest. */
final class Outside {
    static final int[] COLUMNS = {-1, 2, 3, Integer.MIN_VALUE, Integer.MAX_VALUE};
    static final int[] ROWS = {-1, 8, 9, Integer.MIN_VALUE, Integer.MAX_VALUE};
    static final int[] FIELD = {-1, 12289, 12290, 24578, -12289, Integer.MIN_VALUE, Integer.MAX_VALUE};
    static final int[] LETTERS = {-1, 5, 6, Integer.MIN_VALUE, Integer.MAX_VALUE};
    static final int[] POINTS = {-1, 32, 33, Integer.MIN_VALUE, Integer.MAX_VALUE};
    static final int[] PROOF = {-1, 179, 180, Integer.MIN_VALUE, Integer.MAX_VALUE};
    static final int[] POSITIONS = {-1, 3, 4, Integer.MIN_VALUE, Integer.MAX_VALUE};

    private Outside() {
    }
}
