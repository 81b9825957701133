import java.util.function.Supplier;

/** The edges of a number that a call takes. */
final class Ranges {
    /** A call in which one number varies. */
    interface Call {
        void with(ChannelLoom x, int number);
    }

    private Ranges() {
    }

    /** Each number of the range is taken, on an object of its own. */
    static void taken(Supplier<ChannelLoom> made, int least, int most, Call call) {
        for (int number = least; number <= most; number++) {
            boolean thrown = false;
            try {
                call.with(made.get(), number);
            } catch (RuntimeException e) {
                thrown = true;
            }
            Check.holds("the number " + number + " is taken", !thrown);
        }
    }

    /** The numbers beside the range, and those farthest from it, are no index. */
    static void outside(ChannelLoom x, int least, int most, Call call) {
        for (int number : beside(least, most)) {
            Check.outside(x, "the index " + number, () -> call.with(x, number));
        }
    }

    /** The numbers beside the range, and those farthest from it, are refused as arguments. */
    static void illegal(ChannelLoom x, int least, int most, Call call) {
        for (int number : beside(least, most)) {
            Check.illegal(x, "the number " + number, () -> call.with(x, number));
        }
    }

    private static int[] beside(int least, int most) {
        return new int[] {least - 1, most + 1, Integer.MIN_VALUE, Integer.MAX_VALUE};
    }
}
