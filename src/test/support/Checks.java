import java.util.function.IntSupplier;

/** Counts the answers that are not as due, and ends the test with exit code 1 if there was one. */
final class Checks {
    private static int done = 0;
    private static int wrong = 0;

    private Checks() {
    }

    static void due(String what, long got, long want) {
        done++;
        if (got != want) {
            wrong++;
            System.out.println(what + " answered " + got + ", due is " + want);
        }
    }

    static void due(String what, String got, String want) {
        done++;
        if (!got.equals(want)) {
            wrong++;
            System.out.println(what + " answered " + got + ", due is " + want);
        }
    }

    static void due(String what, boolean got) {
        due(what, got ? 1 : 0, 1);
    }

    /** The call throws exactly this exception, and changes nothing. */
    static void refused(AlmsKernel kernel, Class<? extends RuntimeException> want, String what, IntSupplier call) {
        String before = snapshot(kernel);
        due(what, answer(call), "throws " + want.getSimpleName());
        due("after the refused " + what + " the state", snapshot(kernel), before);
    }

    /** The answer as a text, or the name of what the call throws. */
    static String answer(IntSupplier call) {
        try {
            return Integer.toString(call.getAsInt());
        } catch (RuntimeException e) {
            return "throws " + e.getClass().getSimpleName();
        }
    }

    /** All that the kernel tells of itself. */
    static String snapshot(AlmsKernel kernel) {
        StringBuilder text = new StringBuilder();
        text.append("tick ").append(kernel.tick()).append(" head ").append(kernel.head());
        text.append(" free ").append(kernel.free());
        for (int frame = 0; frame < 12; frame++) {
            text.append("; frame ").append(frame).append(' ').append(kernel.owner(frame));
            text.append(' ').append(kernel.holder(frame)).append(' ').append(kernel.holderByLog(frame));
            text.append(' ').append(kernel.pageIn(frame)).append(' ').append(kernel.age(frame));
        }
        for (int process = 0; process < 5; process++) {
            text.append("; process ").append(process).append(' ').append(kernel.stateOf(process));
            text.append(' ').append(kernel.purse(process)).append(' ').append(kernel.faults(process));
            text.append(' ').append(kernel.owns(process)).append(' ').append(kernel.borrowed(process));
            text.append(' ').append(kernel.lent(process));
        }
        for (int loan = 0; loan < kernel.loans(); loan++) {
            text.append("; loan ").append(kernel.lasts(loan)).append(' ').append(kernel.partiesOf(loan));
            text.append(' ').append(kernel.interest(loan));
        }
        text.append("; requests ").append(kernel.requests());
        for (int place = 0; place <= kernel.requests(); place++) {
            text.append(' ').append(kernel.requestAt(place));
        }
        return text.toString();
    }

    static void end() {
        System.out.println(done + " answers looked at, " + wrong + " not as due");
        if (wrong != 0 || done == 0) {
            System.exit(1);
        }
    }
}
