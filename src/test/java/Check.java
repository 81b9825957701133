/** Counts the answers that are not as due, and prints them. */
final class Check {
    private static int checked = 0;
    private static int wrong = 0;
    private static String subject = "";

    private Check() {
    }

    /** What the checks that follow are of; it stands in front of what is wrong. */
    static void begin(String of) {
        subject = of.isEmpty() ? "" : "[" + of + "] ";
    }

    static void same(String what, long due, long got) {
        checked++;
        if (due != got) {
            tell(what + ": answered " + got + ", due is " + due);
        }
    }

    static void same(String what, double due, double got) {
        checked++;
        if (due != got) {
            tell(what + ": answered " + got + ", due is " + due);
        }
    }

    static void holds(String what, boolean answer) {
        same(what, 1, answer ? 1 : 0);
    }

    /** Nothing may have changed behind the call. */
    static void outside(ChannelLoom x, String what, Runnable call) {
        fails(x, what, IndexOutOfBoundsException.class, call);
    }

    static void illegal(ChannelLoom x, String what, Runnable call) {
        fails(x, what, IllegalArgumentException.class, call);
    }

    static void refused(ChannelLoom x, String what, Runnable call) {
        fails(x, what, IllegalStateException.class, call);
    }

    private static void fails(ChannelLoom x, String what, Class<? extends RuntimeException> due, Runnable call) {
        long before = x.digest();
        checked++;
        Class<?> thrown = null;
        try {
            call.run();
        } catch (RuntimeException e) {
            thrown = e.getClass();
        }
        if (thrown != due) {
            tell(what + ": threw " + thrown + ", due is " + due);
        }
        same(what + " changes nothing", before, x.digest());
    }

    private static void tell(String fault) {
        wrong++;
        System.out.println(subject + fault);
    }

    static int wrong() {
        return wrong;
    }

    static int checked() {
        return checked;
    }
}
