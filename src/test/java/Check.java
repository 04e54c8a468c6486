/** Counts the answers that are not as due; a test ends with finish(). */
final class Check {
    private static int asked = 0;
    private static int wrong = 0;
    private static String words = "";

    private Check() {
    }

    /** A call whose answer or exception is looked at. */
    interface Call {
        Object answer();
    }

    /** The words of the document that the answers asked from here on are due to. */
    static void dueTo(String quote) {
        words = "\"" + quote + "\": ";
    }

    static void due(String what, Object want, Call call) {
        Object got = outcome(call);
        asked++;
        if (!String.valueOf(want).equals(String.valueOf(got))) {
            wrong++;
            System.out.println(words + what + ": answered " + got + ", due is " + want);
        }
    }

    static void badArgument(String what, Call call) {
        due(what, "throws.IllegalArgumentException", call);
    }

    static void badState(String what, Call call) {
        due(what, "throws.IllegalStateException", call);
    }

    static Object outcome(Call call) {
        try {
            return call.answer();
        } catch (RuntimeException e) {
            return "throws." + e.getClass().getSimpleName();
        }
    }

    static void finish() {
        System.out.println(asked + " answers, " + wrong + " not as due");
        if (wrong != 0 || asked == 0) {
            System.exit(1);
        }
    }
}
