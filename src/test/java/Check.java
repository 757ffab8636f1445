import java.util.Set;
import java.util.TreeSet;

/** Counts and prints what is not as due, under the sentence of the document that asks for it. */
final class Check {
    /** The exceptions' places among the answers, far from every answer of the document. */
    static final long ARGUMENT = Long.MIN_VALUE + 1;
    static final long STATE = Long.MIN_VALUE + 2;

    /** A call of the face; a boolean answer counts 1 or 0. */
    interface Call {
        long answer();
    }

    /** A call of the face with one argument left open. */
    interface CallWith {
        long answer(int number);
    }

    private static final Set<String> SENTENCES = new TreeSet<>();
    private static String sentence = "";
    private static boolean idle = false;
    private static int calls = 0;
    private static int wrong = 0;

    private Check() {
    }

    /** What follows tests these words of a promise. */
    static void promise(int number, String words) {
        open("promise " + number + ", '" + words + "': ");
    }

    /** What follows tests these words of the document's section Terms. */
    static void term(String words) {
        open("terms, '" + words + "': ");
    }

    static long told(boolean answer) {
        return answer ? 1 : 0;
    }

    /** Any other exception goes on up and ends the test as failed. */
    static long outcome(Call call) {
        try {
            return call.answer();
        } catch (IllegalArgumentException e) {
            return e.getClass() == IllegalArgumentException.class ? ARGUMENT : Long.MIN_VALUE;
        } catch (IllegalStateException e) {
            return e.getClass() == IllegalStateException.class ? STATE : Long.MIN_VALUE;
        }
    }

    static void same(String what, long got, long due) {
        calls++;
        idle = false;
        if (got != due) {
            fault(what + " answered " + text(got) + ", due is " + text(due));
        }
    }

    static void same(String what, long due, Call call) {
        same(what, outcome(call), due);
    }

    static void refused(String what, Call call) {
        same(what, ARGUMENT, call);
    }

    static void full(String what, Call call) {
        same(what, STATE, call);
    }

    /** Outside lowest .. highest: the next numbers, the farthest, and those that a narrower type takes for inside. */
    static void refusedOutside(String what, int lowest, int highest, CallWith call) {
        int[] numbers = {lowest - 1, lowest - 2, highest + 1, Integer.MIN_VALUE, Integer.MAX_VALUE,
            lowest + 256, lowest - 256, lowest + 65536, lowest - 65536};
        for (int number : numbers) {
            refused(what + " " + number, () -> call.answer(number));
        }
    }

    static void end(String test) {
        closeSentence();
        String of = SENTENCES.isEmpty() ? "" : SENTENCES.size() + " sentences, ";
        System.out.println(test + ": " + of + calls + " answers looked at, " + wrong + " not as due");
        if (wrong != 0 || calls == 0) {
            System.exit(1);
        }
    }

    static String text(long answer) {
        if (answer == ARGUMENT) {
            return "throws.IllegalArgumentException";
        }
        return answer == STATE ? "throws.IllegalStateException" : Long.toString(answer);
    }

    private static void open(String words) {
        closeSentence();
        sentence = words;
        idle = true;
        if (!SENTENCES.add(words)) {
            fault("the sentence is tested in two places");
        }
    }

    private static void closeSentence() {
        if (idle) {
            fault("no answer is looked at");
        }
        idle = false;
    }

    private static void fault(String what) {
        wrong++;
        System.out.println(sentence + what);
    }
}
