import java.util.stream.IntStream;

/** Numbers at the ends of a range, and beyond them. */
final class Ints {
    private Ints() {
    }

    /**
     * Numbers that are not in a range: those next to it, the least and the greatest of all, and such as
     * come into it where only their lowest 5, 8 or 16 bits, or 31 bits, are looked at.
     */
    static int[] outside(int lowest, int highest) {
        int least = Integer.MIN_VALUE;
        int greatest = Integer.MAX_VALUE;
        return IntStream.of(least, least + 1, least + lowest, least + highest, -65536, -256, -64, -32, -20, -2, -1,
                lowest - 2, lowest - 1, highest + 1, highest + 2, 20, 32, 32 + lowest, 32 + highest, 64, 100,
                256 + lowest, 256 + highest, 65536 + lowest, 65536 + highest, greatest - 1, greatest)
                .filter(number -> number < lowest || number > highest).distinct().sorted().toArray();
    }

    /** The numbers of a range. */
    static int[] inside(int lowest, int highest) {
        return IntStream.rangeClosed(lowest, highest).toArray();
    }

    static boolean isInside(int number, int lowest, int highest) {
        return number >= lowest && number <= highest;
    }
}
