/** Counts what is not as due; a test ends by finish(). */
final class Check {
    interface Call {
        Object answer();
    }

    private static int calls = 0;
    private static int wrong = 0;

    private Check() {
    }

    static void due(String what, Object got, Object want) {
        calls++;
        if (!String.valueOf(got).equals(String.valueOf(want))) {
            wrong++;
            if (wrong <= 50) {
                System.out.println(what + " answered " + got + ", due is " + want);
            }
        }
    }

    /** An answer as a text, or throws. and the exception's own name: a class below it is another name. */
    static String outcome(Call call) {
        try {
            return String.valueOf(call.answer());
        } catch (RuntimeException e) {
            return "throws." + e.getClass().getSimpleName();
        }
    }

    /** For a call without an answer. */
    static String nothing(Runnable call) {
        call.run();
        return "nothing";
    }

    static void state(String what, Call call) {
        due(what, outcome(call), "throws.IllegalStateException");
    }

    static void argument(String what, Call call) {
        due(what, outcome(call), "throws.IllegalArgumentException");
    }

    static void bounds(String what, Call call) {
        due(what, outcome(call), "throws.IndexOutOfBoundsException");
    }

    static boolean isAllAsDue() {
        return wrong == 0;
    }

    static void finish() {
        System.out.println(calls + " answers looked at, " + wrong + " not as due");
        if (wrong != 0) {
            System.exit(1);
        }
    }
}
