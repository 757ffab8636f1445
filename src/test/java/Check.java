/** Counts and prints what is not as due. */
final class Check {
    /** The exceptions' places among the answers, far from every answer of the document. */
    static final long ARGUMENT = Long.MIN_VALUE + 1;
    static final long STATE = Long.MIN_VALUE + 2;

    /** A call of the face; a boolean answer counts 1 or 0. */
    interface Call {
        long answer();
    }

    private static int calls = 0;
    private static int wrong = 0;

    private Check() {
    }

    static long told(boolean answer) {
        return answer ? 1 : 0;
    }

    /** Any other exception goes on up and ends the test as failed. */
    static long outcome(Call call) {
        try {
            return call.answer();
        } catch (IllegalArgumentException e) {
            return e.getClass() == IllegalArgumentException.class ? ARGUMENT : Long.MIN_VALUE;
        } catch (IllegalStateException e) {
            return e.getClass() == IllegalStateException.class ? STATE : Long.MIN_VALUE;
        }
    }

    static void same(String what, long got, long due) {
        calls++;
        if (got != due) {
            wrong++;
            System.out.println(what + " answered " + text(got) + ", due is " + text(due));
        }
    }

    static void same(String what, long due, Call call) {
        same(what, outcome(call), due);
    }

    static void refused(String what, Call call) {
        same(what, ARGUMENT, call);
    }

    static void full(String what, Call call) {
        same(what, STATE, call);
    }

    static void end(String test) {
        System.out.println(test + ": " + calls + " answers looked at, " + wrong + " not as due");
        if (wrong != 0 || calls == 0) {
            System.exit(1);
        }
    }

    private static String text(long answer) {
        if (answer == ARGUMENT) {
            return "throws.IllegalArgumentException";
        }
        return answer == STATE ? "throws.IllegalStateException" : Long.toString(answer);
    }
}
