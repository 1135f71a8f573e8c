import java.util.Arrays;

/** Puts numbers together that a call is tried with. */
final class Numbers {
    private Numbers() {
    }

    static int[] and(int[] some, int... more) {
        int[] all = Arrays.copyOf(some, some.length + more.length);
        System.arraycopy(more, 0, all, some.length, more.length);
        return all;
    }
}
