/** Counts what is not as it is due, and tells it. */
final class Expect {
    private static int wrong = 0;

    /** A call whose exception is looked at. */
    interface Call {
        Object run();
    }

    private Expect() {
    }

    static void same(String what, long got, long due) {
        if (got != due) {
            tell(what + " answered " + got + ", due is " + due);
        }
    }

    static void same(String what, boolean got, boolean due) {
        if (got != due) {
            tell(what + " answered " + got + ", due is " + due);
        }
    }

    static void differs(String what, long got, long other) {
        if (got == other) {
            tell(what + " answered " + got + ", due is anything else");
        }
    }

    static void raises(String what, Class<? extends RuntimeException> due, Call call) {
        try {
            tell(what + " answered " + call.run() + ", due is " + due.getName());
        } catch (RuntimeException e) {
            if (e.getClass() != due) {
                tell(what + " threw " + e + ", due is " + due.getName());
            }
        }
    }

    static void tell(String text) {
        wrong++;
        System.out.println(text);
    }

    static void finish() {
        if (wrong != 0) {
            System.out.println(wrong + " answers are not as due");
            System.exit(1);
        }
    }
}
