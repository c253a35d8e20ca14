/** Counts the answers that are not as due, prints them, and ends a test. */
class Check {
    interface Call {
        long answer();
    }

    private static int checked = 0;
    private static int wrong = 0;

    static void due(String what, Call call, long want) {
        note(what, answerOf(call), Long.toString(want));
    }

    static void dueThrows(String what, Call call, Class<? extends RuntimeException> want) {
        note(what, answerOf(call), "throws." + want.getSimpleName());
    }

    static void note(String what, String got, String want) {
        checked++;
        if (!got.equals(want)) {
            wrong++;
            System.out.println(what + " answered " + got + ", due is " + want);
        }
    }

    static String answerOf(Call call) {
        try {
            return Long.toString(call.answer());
        } catch (RuntimeException e) {
            return "throws." + e.getClass().getSimpleName();
        }
    }

    static int checkedSoFar() {
        return checked;
    }

    static int wrongSoFar() {
        return wrong;
    }

    static void end() {
        System.out.println(checked + " answers checked, " + wrong + " not as due");
        if (wrong != 0 || checked == 0) {
            System.exit(1);
        }
    }
}
