/** Counts the answers that are not due, and ends a test with exit code 1 if there was one. */
final class Check {
    interface Call {
        Object run();
    }

    private static int asked;
    private static int wrong;

    private Check() {
    }

    static void same(String what, Call call, long due) {
        Object answer = answerOf(call);
        report(what, answer, answer instanceof Number number && !(answer instanceof Float)
                && !(answer instanceof Double) && number.longValue() == due, due);
    }

    static void same(String what, Call call, boolean due) {
        Object answer = answerOf(call);
        report(what, answer, answer.equals(due), due);
    }

    static void same(String what, Call call, double due) {
        Object answer = answerOf(call);
        report(what, answer, answer instanceof Double number && number == due, due);
    }

    static void same(String what, Call call, float due) {
        Object answer = answerOf(call);
        report(what, answer, answer instanceof Float number && number == due, due);
    }

    /** The call throws just that exception, and no class below it. */
    static void refused(String what, Class<? extends RuntimeException> due, Call call) {
        Object answer = answerOf(call);
        report(what, answer, answer == due, due);
    }

    static void holds(String what, boolean isSo) {
        report(what, isSo, isSo, true);
    }

    static void end() {
        System.out.println(asked + " answers, " + wrong + " not as due");
        if (asked == 0 || wrong != 0) {
            System.exit(1);
        }
    }

    /** The answer, or the class of the exception that a throw in the class threw. */
    static Object answerOf(Call call) {
        try {
            return call.run();
        } catch (RuntimeException thrown) {
            return isOfItsOwn(thrown) ? thrown.getClass() : thrown + ", thrown by the machine";
        }
    }

    /** The machine's exceptions come from the library or have another text than a written one. */
    static boolean isOfItsOwn(Throwable thrown) {
        StackTraceElement[] trace = thrown.getStackTrace();
        String text = thrown.getMessage();
        return trace.length > 0 && trace[0].getClassName().startsWith("Quipuhall")
                && text != null && !text.startsWith("Index ") && !text.startsWith("Cannot ")
                && !text.equals("/ by zero");
    }

    private static void report(String what, Object answer, boolean isRight, Object due) {
        asked++;
        if (!isRight) {
            wrong++;
            System.out.println(what + " answered " + answer + ", due is " + due);
        }
    }
}
