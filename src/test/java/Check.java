/** Compares answers with those that are due, prints each that is not, and ends the test. */
final class Check {
    interface Call {
        Object answer();
    }

    private static int wrong = 0;
    private static int looked = 0;

    private Check() {
    }

    /** What a call answers, as text: the value, or throws. and the name of the exception. */
    static String outcome(Call call) {
        try {
            return String.valueOf(call.answer());
        } catch (RuntimeException e) {
            return "throws." + e.getClass().getSimpleName();
        }
    }

    static void due(String name, Object want, Call call) {
        String got = outcome(call);
        looked++;
        if (!got.equals(String.valueOf(want))) {
            wrong++;
            System.out.println(name + ": answered " + got + ", due is " + want);
        }
    }

    static void argument(String name, Call call) {
        due(name, "throws.IllegalArgumentException", call);
    }

    static void index(String name, Call call) {
        due(name, "throws.IndexOutOfBoundsException", call);
    }

    static void state(String name, Call call) {
        due(name, "throws.IllegalStateException", call);
    }

    static void unsupported(String name, Call call) {
        due(name, "throws.UnsupportedOperationException", call);
    }

    static void none(String name, Call call) {
        due(name, "throws.NoSuchElementException", call);
    }

    static void end() {
        System.out.println(looked + " answers looked at, " + wrong + " wrong");
        if (wrong != 0) {
            System.exit(1);
        }
    }
}
