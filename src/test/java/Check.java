import java.util.Objects;

/** Counts what is as due and prints what is not. */
final class Check {
    private static int passed = 0;
    private static int failed = 0;

    private Check() {
    }

    /** A call whose answer or exception is looked at. */
    interface Call {
        Object answer();
    }

    static void is(String what, Object got, Object due) {
        if (Objects.equals(got, due)) {
            passed++;
        } else {
            failed++;
            if (failed <= 50) {
                System.out.println(what + " answered " + got + ", due is " + due);
            }
        }
    }

    /**
     * The answer of a call, or the exact class of what it throws, as a text. What the class did not throw
     * itself, by a throw statement in the method that was called, is told as the machine's.
     */
    static String outcome(Call call) {
        try {
            return String.valueOf(call.answer());
        } catch (RuntimeException e) {
            StackTraceElement[] trace = e.getStackTrace();
            boolean isOwn = trace.length > 0 && trace[0].getClassName().equals("Lacehall")
                    && !"/ by zero".equals(e.getMessage());
            return (isOwn ? "throws " : "the machine throws ") + e.getClass().getSimpleName();
        }
    }

    static void outOfBounds(String what, Call call) {
        is(what, outcome(call), "throws IndexOutOfBoundsException");
    }

    static void illegalArgument(String what, Call call) {
        is(what, outcome(call), "throws IllegalArgumentException");
    }

    static void illegalState(String what, Call call) {
        is(what, outcome(call), "throws IllegalStateException");
    }

    static void unsupported(String what, Call call) {
        is(what, outcome(call), "throws UnsupportedOperationException");
    }

    static void noSuchElement(String what, Call call) {
        is(what, outcome(call), "throws NoSuchElementException");
    }

    static void arithmetic(String what, Call call) {
        is(what, outcome(call), "throws ArithmeticException");
    }

    static void finish(String name) {
        System.out.println(name + ": " + passed + " answers as due, " + failed + " not");
        if (failed != 0 || passed == 0) {
            System.exit(1);
        }
    }
}
