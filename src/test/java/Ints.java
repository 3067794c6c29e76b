import java.util.Arrays;
import java.util.stream.IntStream;

/** Rows of ints to try. */
final class Ints {

    private Ints() {
    }

    static int[] inside(int least, int greatest) {
        return IntStream.rangeClosed(least, greatest).toArray();
    }

    /** The first ints outside on each side, the extreme ones, and those that a cast or a shift would take for inside. */
    static int[] outside(int least, int greatest) {
        return IntStream.of(least - 1, greatest + 1, Integer.MIN_VALUE, Integer.MAX_VALUE,
                Integer.MIN_VALUE + 1, Integer.MAX_VALUE - 1, greatest - 256, least + 256, least + 65536,
                greatest + 32, Integer.MIN_VALUE + greatest)
                .filter(number -> number < least || number > greatest).distinct().toArray();
    }

    static int[] anywhere(int least, int greatest) {
        int[] inside = inside(least, greatest);
        int[] outside = outside(least, greatest);
        int[] all = Arrays.copyOf(inside, inside.length + outside.length);
        System.arraycopy(outside, 0, all, inside.length, outside.length);
        return all;
    }
}
