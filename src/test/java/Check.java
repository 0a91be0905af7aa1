/** Counts and prints answers that are not as due. */
final class Check {
    interface Call {
        Object answer();
    }

    private static int wrong = 0;
    private static int asked = 0;

    private Check() {
    }

    static void is(String what, Object due, Call call) {
        asked++;
        Object got;
        try {
            got = call.answer();
        } catch (RuntimeException e) {
            got = e.getClass();
        }
        if (!due.equals(got)) {
            wrong++;
            System.out.println(what + " answered " + got + ", due is " + due);
        }
    }

    static void index(String what, Call call) {
        is(what, IndexOutOfBoundsException.class, call);
    }

    static void argument(String what, Call call) {
        is(what, IllegalArgumentException.class, call);
    }

    static void unsupported(String what, Call call) {
        is(what, UnsupportedOperationException.class, call);
    }

    static void state(String what, Call call) {
        is(what, IllegalStateException.class, call);
    }

    static void noElement(String what, Call call) {
        is(what, java.util.NoSuchElementException.class, call);
    }

    static void arithmetic(String what, Call call) {
        is(what, ArithmeticException.class, call);
    }

    static void end() {
        System.out.println(asked + " asked, " + wrong + " wrong");
        if (wrong != 0 || asked == 0) {
            System.exit(1);
        }
    }
}
