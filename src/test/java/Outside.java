/**
 * Numbers that the document does not allow: the first ones outside, some that a
 * mask or a shift would let in, and the farthest.
 */
final class Outside {
    static final int[] BOXES = {-1, 8, 256, -8, Integer.MIN_VALUE, Integer.MAX_VALUE};
    static final int[] PERSONS = {-1, 16, 32, -16, Integer.MIN_VALUE, Integer.MAX_VALUE};
    static final int[] SPANS = {0, -1, 1001, -1000, Integer.MIN_VALUE, Integer.MAX_VALUE};
    static final int[] DAYS = {-1, 100000, -99999, Integer.MIN_VALUE, Integer.MAX_VALUE};
    static final int[] COURTS = {-1, 2, 256, Integer.MIN_VALUE, Integer.MAX_VALUE};
    static final int[] KINDS = {-1, 3, 256, Integer.MIN_VALUE, Integer.MAX_VALUE};
    static final int[] LIKENESSES = {-1, 101, -60, 256, Integer.MIN_VALUE, Integer.MAX_VALUE};

    private Outside() {
    }
}
