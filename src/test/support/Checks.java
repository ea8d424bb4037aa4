import java.util.function.IntSupplier;
import java.util.function.Supplier;
import java.util.function.ToIntFunction;

/** Counts the answers that are not as due, and ends the test with exit code 1 if there was one. */
final class Checks {
    static final Class<IndexOutOfBoundsException> INDEX = IndexOutOfBoundsException.class;
    static final Class<IllegalArgumentException> ARGUMENT = IllegalArgumentException.class;
    static final Class<IllegalStateException> STATE = IllegalStateException.class;
    /** Enough ticks for the head to go from one end of the disk to the other. */
    private static final int TICKS_LATER = 45;
    private static final int LAST_TICK = 50000;

    private static int done = 0;
    private static int wrong = 0;

    private Checks() {
    }

    static void due(String what, long got, long want) {
        done++;
        if (got != want) {
            wrong++;
            System.out.println(what + " answered " + got + ", due is " + want);
        }
    }

    static void due(String what, String got, String want) {
        done++;
        if (!got.equals(want)) {
            wrong++;
            System.out.println(what + " answered " + got + ", due is " + want);
        }
    }

    static void due(String what, boolean got) {
        due(what, got ? 1 : 0, 1);
    }

    static void dueNot(String what, boolean got) {
        due(what, got ? 1 : 0, 0);
    }

    /** The call throws exactly this exception, and changes nothing. */
    static void refused(AlmsKernel kernel, Class<? extends RuntimeException> want, String what, IntSupplier call) {
        String before = snapshot(kernel);
        due(what, answer(call), "throws " + want.getSimpleName());
        due("after the refused " + what + " the state", snapshot(kernel), before);
    }

    /**
     * The call throws exactly this exception, and changes nothing, not even what the kernel does not tell at
     * once (wages, the rate, which request is chosen): a twin that was made alike and not called so tells the
     * same, then and at each tick that comes.
     */
    static void refused(Class<? extends RuntimeException> want, String what, Supplier<AlmsKernel> made,
            ToIntFunction<AlmsKernel> call) {
        AlmsKernel called = made.get();
        AlmsKernel twin = made.get();
        refused(called, want, what, () -> call.applyAsInt(called));
        sameLater("after the refused " + what, called, twin);
    }

    /** Two kernels tell the same at each tick that comes, and have the same wages and the same rate. */
    static void sameLater(String what, AlmsKernel called, AlmsKernel twin) {
        due(what + ", the state", snapshot(called), snapshot(twin));
        for (int later = 1; later <= TICKS_LATER && twin.tick() < LAST_TICK; later++) {
            called.advance(1);
            twin.advance(1);
            due(what + ", the state " + later + " later", snapshot(called), snapshot(twin));
        }
        for (int process = 0; process < 5; process++) {
            due(what + ", the wage of " + process, called.setWage(process, 0), twin.setWage(process, 0));
        }
        due(what + ", the rate", called.setRate(0), twin.setRate(0));
    }

    /** The purses of the processes 0 and up. */
    static void purses(String what, AlmsKernel x, int... want) {
        for (int process = 0; process < want.length; process++) {
            due(what + ", purse(" + process + ")", x.purse(process), want[process]);
        }
    }

    /** The answer as a text, or the name of what the call throws. */
    static String answer(IntSupplier call) {
        try {
            return Integer.toString(call.getAsInt());
        } catch (RuntimeException e) {
            return "throws " + e.getClass().getSimpleName();
        }
    }

    /** All that the kernel tells of itself. */
    static String snapshot(AlmsKernel kernel) {
        StringBuilder text = new StringBuilder();
        text.append("tick ").append(kernel.tick()).append(" head ").append(kernel.head());
        text.append(" free ").append(kernel.free());
        for (int frame = 0; frame < 12; frame++) {
            text.append("; frame ").append(frame).append(' ').append(kernel.owner(frame));
            text.append(' ').append(kernel.holder(frame)).append(' ').append(kernel.holderByLog(frame));
            text.append(' ').append(kernel.pageIn(frame)).append(' ').append(kernel.age(frame));
        }
        for (int process = 0; process < 5; process++) {
            text.append("; process ").append(process).append(' ').append(kernel.stateOf(process));
            text.append(' ').append(kernel.purse(process)).append(' ').append(kernel.faults(process));
            text.append(' ').append(kernel.owns(process)).append(' ').append(kernel.borrowed(process));
            text.append(' ').append(kernel.lent(process));
        }
        for (int loan = 0; loan < kernel.loans(); loan++) {
            text.append("; loan ").append(kernel.lasts(loan)).append(' ').append(kernel.partiesOf(loan));
            text.append(' ').append(kernel.interest(loan));
        }
        text.append("; requests ").append(kernel.requests());
        for (int place = 0; place <= kernel.requests(); place++) {
            text.append(' ').append(kernel.requestAt(place));
        }
        return text.toString();
    }

    static void end() {
        System.out.println(done + " answers looked at, " + wrong + " not as due");
        if (wrong != 0 || done == 0) {
            System.exit(1);
        }
    }
}
