/** Numbers at the edges of a range, for arguments. */
final class Range {
    private Range() {
    }

    /** The first and the last two of a range of at least two. */
    static int[] inside(int least, int most) {
        return new int[] {least, least + 1, most - 1, most};
    }

    /** Just outside of a range, and as far outside as an int can be. */
    static int[] outside(int least, int most) {
        return new int[] {least - 1, most + 1, Integer.MIN_VALUE, Integer.MAX_VALUE};
    }
}
