/** Counts wrong answers and tells them; a test ends with done(). */
final class Check {
    private static int wrong = 0;

    private Check() {
    }

    static void due(String what, Object got, Object want) {
        if (!got.equals(want)) {
            wrong++;
            if (wrong <= 20) {
                System.out.println(what + " answered " + got + ", due is " + want);
            }
        }
    }

    /** The short name of what a call throws, or its answer. */
    static String answer(Call call) {
        try {
            return String.valueOf(call.run());
        } catch (RuntimeException e) {
            return e.getClass().getSimpleName();
        }
    }

    static void throwsState(String what, Call call) {
        due(what, answer(call), "IllegalStateException");
    }

    static void throwsArgument(String what, Call call) {
        due(what, answer(call), "IllegalArgumentException");
    }

    /** The call throws, and nothing that the desk answers is another than before. */
    static void refused(String what, ProsePages desk, String exception, Call call) {
        String before = Whole.of(desk);
        due(what, answer(call), exception);
        due(what + ", all then", Whole.of(desk), before);
    }

    static void refusedByState(String what, ProsePages desk, Call call) {
        refused(what, desk, "IllegalStateException", call);
    }

    static void refusedByArgument(String what, ProsePages desk, Call call) {
        refused(what, desk, "IllegalArgumentException", call);
    }

    static boolean isAllRight() {
        return wrong == 0;
    }

    static void done() {
        System.out.println(wrong == 0 ? "all answers are as due" : wrong + " answers are not as due");
        if (wrong != 0) {
            System.exit(1);
        }
    }

    interface Call {
        int run();
    }
}
