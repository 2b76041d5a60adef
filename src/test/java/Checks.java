import java.util.function.IntSupplier;
import java.util.function.ToIntFunction;

/** What the tests share: answers, and exceptions as numbers beside them, compared with what is due. */
final class Checks {
    static final int INDEX = 1_000_000_001;
    static final int ARGUMENT = 1_000_000_002;
    static final int STATE = 1_000_000_003;
    private static final int OTHER = 1_000_000_004;

    private static int wrong = 0;

    private Checks() {
    }

    /** A call of the program with one argument that is left open. */
    interface OpenCall {
        int on(RosterPay x, int value);
    }

    /** The answer of a call, or a number for the exception that it throws. */
    static int answer(IntSupplier call) {
        try {
            return call.getAsInt();
        } catch (RuntimeException e) {
            // What the library or the machine throws is wrong even if it is of the kind that is due.
            StackTraceElement[] trace = e.getStackTrace();
            if (trace.length == 0 || !trace[0].getClassName().equals("RosterPay")) {
                return OTHER;
            }
            if (e.getClass() == IndexOutOfBoundsException.class) {
                return INDEX;
            }
            if (e.getClass() == IllegalArgumentException.class) {
                return ARGUMENT;
            }
            return e.getClass() == IllegalStateException.class ? STATE : OTHER;
        }
    }

    static void due(String what, int want, IntSupplier call) {
        int got = answer(call);
        if (got != want) {
            fail(what + ": " + named(got) + ", due is " + named(want));
        }
    }

    static void due(String what, String want, String got) {
        if (!got.equals(want)) {
            fail(what + ": " + got + ", due is " + want);
        }
    }

    /** The call is refused, and all that was told before it still holds: a twin without the call answers the same. */
    static void refused(String what, Told told, int exception, ToIntFunction<RosterPay> call) {
        for (int part = 0; part < Told.PARTS; part++) {
            RosterPay x = told.make();
            due(what + ", " + told, exception, () -> call.applyAsInt(x));
            due(what + ", " + told + ", afterwards", told.answersOfTwin(part), Told.answers(x, part));
        }
    }

    /** At the two ends of its range the argument is taken; beside them, and far from them, it is refused. */
    static void range(String what, Told told, int exception, int least, int most, int want, OpenCall call) {
        for (int value : new int[] {least, most}) {
            due(what + " " + value + ", " + told, want, () -> call.on(told.make(), value));
        }
        for (int value : new int[] {least - 1, most + 1, Integer.MIN_VALUE, Integer.MAX_VALUE}) {
            refused(what + " " + value, told, exception, x -> call.on(x, value));
        }
    }

    static int number(boolean isTrue) {
        return isTrue ? 1 : 0;
    }

    static void fail(String what) {
        wrong++;
        System.out.println(what);
    }

    /** Ends the test, with exit code 1 if an answer was wrong. */
    static void finish() {
        System.out.println(wrong == 0 ? "all answers are as due" : wrong + " answers are not as due");
        if (wrong != 0) {
            System.exit(1);
        }
    }

    private static String named(int answer) {
        return switch (answer) {
            case INDEX -> "IndexOutOfBoundsException";
            case ARGUMENT -> "IllegalArgumentException";
            case STATE -> "IllegalStateException";
            case OTHER -> "another exception";
            default -> Integer.toString(answer);
        };
    }
}
