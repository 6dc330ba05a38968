/** The edges of a range of numbers. */
final class Edges {
    private Edges() {
    }

    static int[] outside(int lowest, int highest) {
        return new int[] {Integer.MIN_VALUE, lowest - 1, highest + 1, Integer.MAX_VALUE};
    }

    static int[] inside(int lowest, int highest) {
        return new int[] {lowest, highest};
    }

    /** A copy of the numbers with another one at a place. */
    static int[] with(int[] numbers, int place, int number) {
        int[] changed = numbers.clone();
        changed[place] = number;
        return changed;
    }
}
