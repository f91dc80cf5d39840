/** Holds answers against those that are due, and counts the wrong ones. */
final class Check {
    interface Call {
        Object go();
    }

    static final Class<?> INDEX = IndexOutOfBoundsException.class;
    static final Class<?> ARGUMENT = IllegalArgumentException.class;
    static final Class<?> STATE = IllegalStateException.class;
    static final Class<?> UNSUPPORTED = UnsupportedOperationException.class;
    static final Class<?> ELEMENT = java.util.NoSuchElementException.class;
    static final Class<?> ARITHMETIC = ArithmeticException.class;

    private static int right = 0;
    private static int wrong = 0;
    private static String test = "";

    private Check() {
    }

    /** The test that the checks which follow belong to. */
    static void in(String name) {
        test = name.isEmpty() ? "" : name + ": ";
    }

    /** The answer due is a value, or the class of the exception that is due. */
    static void due(Object want, String what, Call call) {
        Object got = answer(call);
        if (want instanceof Class<?> ? want == got : String.valueOf(want).equals(String.valueOf(got))) {
            right++;
            return;
        }
        wrong++;
        System.out.println(test + what + ": answered " + got + ", due is " + want);
    }

    /** What a call answers, or the class of the exception that it throws. */
    static Object answer(Call call) {
        try {
            return call.go();
        } catch (RuntimeException e) {
            return e.getClass();
        }
    }

    static void finish(String name) {
        System.out.println(name + ": " + right + " answers as due, " + wrong + " not");
        if (wrong != 0) {
            System.exit(1);
        }
    }
}
