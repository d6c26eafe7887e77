/** Numbers at and beyond a bound. */
final class Edges {
    private Edges() { }

    /** The first ones outside on both sides, and the farthest. */
    static int[] outside(int least, int most) {
        return new int[] {Integer.MIN_VALUE, Integer.MIN_VALUE + 1, least - 1, most + 1, Integer.MAX_VALUE - 1, Integer.MAX_VALUE};
    }
}
