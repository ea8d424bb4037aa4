/** States from which tests begin. */
final class Scenes {
    private Scenes() {
    }

    /** A process that buys so many frames, with what it needs for that and the ticks which that takes. */
    static AlmsKernel withFrames(int process, int frames) {
        AlmsKernel x = new AlmsKernel();
        if (frames > 2) {
            x.setWage(process, 9);
            x.advance(10);
            x.setWage(process, 0);
        }
        for (int i = 0; i < frames; i++) {
            x.buy(process);
        }
        return x;
    }

    /** The process p has bought the frame p, and has 12 in its purse. */
    static AlmsKernel oneFrameEach() {
        AlmsKernel x = new AlmsKernel();
        for (int process = 0; process < 5; process++) {
            x.buy(process);
        }
        return x;
    }

    /** The only frame has the page 0 of its owner, process 0: it came so many ticks ago, or is coming (0). */
    static AlmsKernel ownPage(int ticks) {
        AlmsKernel x = withFrames(0, 1);
        x.touch(0, 0);
        if (ticks > 0) {
            x.advance(ticks);
        }
        return x;
    }

    /** Process 1 has the frame 11 and 4 in its purse; process 0 has the other frames, and 22. */
    static AlmsKernel lastFrame() {
        AlmsKernel x = withFrames(0, 10);
        bringPurse(x, 1, 12);
        Checks.due("scene: buy(0)", x.buy(0), 10);
        Checks.due("scene: buy(1)", x.buy(1), 11);
        return x;
    }

    /** Gives a process so much, 4 or more: it buys and sells again, then has wages; that takes ticks. */
    static void bringPurse(AlmsKernel x, int process, int amount) {
        for (int i = 0; i < 10 && x.purse(process) > amount && x.purse(process) >= 8; i++) {
            x.sell(x.buy(process));
        }
        for (int i = 0; i < 1000 && x.purse(process) < amount; i++) {
            x.setWage(process, Math.min(9, amount - x.purse(process)));
            x.advance(1);
        }
        x.setWage(process, 0);
        Checks.due("scene: the purse of " + process, x.purse(process), amount);
    }

    /** No process owns a frame, and each has 16 in its purse, so that nobody gives alms. */
    static AlmsKernel withoutGivers() {
        AlmsKernel x = new AlmsKernel();
        for (int process = 0; process < 5; process++) {
            bringPurse(x, process, 16);
        }
        return x;
    }

    /** Lets ticks pass until the process is AWAKE. */
    static void untilAwake(AlmsKernel x, int process) {
        for (int i = 0; i < 100 && x.stateOf(process) != AlmsKernel.AWAKE; i++) {
            x.advance(1);
        }
        Checks.due("scene: process " + process + " is awake", x.stateOf(process), AlmsKernel.AWAKE);
    }

    /** Lets ticks pass up to that tick. */
    static void untilTick(AlmsKernel x, int tick) {
        for (int i = 0; i < 300 && x.tick() < tick; i++) {
            x.advance(Math.min(200, tick - x.tick()));
        }
        Checks.due("scene: tick()", x.tick(), tick);
    }

    /** A process touches a page, a fault, and waits until it is there. Its frame. */
    static int fetch(AlmsKernel x, int process, int page) {
        int frame = x.touch(process, page);
        untilAwake(x, process);
        return frame;
    }

    /**
     * Process 0 sleeps with 4 in its purse: at the rate 9 it could not pay for frame 1, which it had
     * borrowed of process 1. It owns frame 0, in which its page 0 is; frame 1 is empty again.
     */
    static AlmsKernel oneAsleep() {
        AlmsKernel x = new AlmsKernel();
        x.setRate(0);
        x.buy(0);
        x.buy(1);
        x.touch(0, 0);
        x.advance(1);
        Checks.due("asleep: the loan", x.touch(0, 1), 1);
        x.advance(1);
        x.setRate(9);
        x.advance(1);
        Checks.due("asleep: not yet", x.stateOf(0), 0);
        Checks.purses("asleep: not yet", x, 3, 21, 20, 20, 20);
        x.advance(1);
        Checks.due("asleep: stateOf(0)", x.stateOf(0), 2);
        Checks.purses("asleep: alms at the same tick", x, 4, 20, 20, 20, 20);
        return x;
    }

    /**
     * Process 1 sleeps with 1 in its purse, as it could not pay for the loan 0 of frame 0; it is the lender of
     * the loan 1, of its frame 1 to process 2, who has 15. No other has 20. The rate is 0.
     */
    static AlmsKernel sleepingLender() {
        AlmsKernel x = withoutGivers();
        x.buy(0);
        x.touch(1, 7);
        x.buy(1);
        x.touch(2, 7);
        x.setRate(8);
        x.advance(1);
        Checks.purses("scene: each has paid 8", x, 16, 8, 8);
        x.setRate(0);
        x.setWage(2, 8);
        x.advance(1);
        x.setWage(2, 0);
        // At the rate 9 process 1 sleeps with 8, and gets 9 then: so it wakes at once. Thus it buys first.
        x.buy(1);
        Checks.due("scene: it has nothing", x.purse(1), 0);
        x.setRate(1);
        x.advance(1);
        Checks.due("scene: it sleeps", x.stateOf(1), AlmsKernel.ASLEEP);
        Checks.purses("scene: it has the interest of its own loan", x, 16, 1, 15);
        x.setRate(0);
        return x;
    }

    /**
     * At the next tick, at the rate 9, process a will fall asleep with 8, and get twice 9 of the processes b and c;
     * process d will fall asleep with 4. No other process has 20.
     */
    static AlmsKernel beforeRichSleeper(int a, int b, int c, int d) {
        AlmsKernel x = withoutGivers();
        x.setRate(0);
        x.buy(0);
        bringPurse(x, a, 32);
        bringPurse(x, d, 4);
        Checks.due("scene: a borrows of process 0", x.touch(a, 7), 0);
        for (int frame = 1; frame <= 3; frame++) {
            x.buy(a);
        }
        Checks.due("scene: b borrows of a", x.touch(b, 7), 1);
        Checks.due("scene: c borrows of a", x.touch(c, 7), 2);
        Checks.due("scene: d borrows of a", x.touch(d, 7), 3);
        x.setRate(9);
        return x;
    }

    /** Process 1 has nothing, and waits for its page 7 in frame 0, which it has borrowed. Nobody gives alms. */
    static AlmsKernel poorBorrower() {
        AlmsKernel x = withoutGivers();
        bringPurse(x, 1, 8);
        x.buy(0);
        x.setRate(8);
        Checks.due("scene: the loan", x.touch(1, 7), 0);
        x.advance(1);
        Checks.due("scene: it has nothing", x.purse(1), 0);
        return x;
    }

    /**
     * Much at once: process 0 waits in its frame 5 and lends frame 0 to process 2 by the loan 2; process 1
     * sleeps; process 2 is awake with the page 0 in its frame 2 and the page 1 in frame 0; the processes 3
     * and 4 wait in their frames; the loans 0 and 1 have ended. The request of process 3 is chosen, though
     * that of process 0 is nearer now.
     */
    static AlmsKernel busy() {
        AlmsKernel x = oneFrameEach();
        x.setRate(0);
        fetch(x, 1, 0);
        fetch(x, 1, 1);
        x.payBack(0);
        fetch(x, 1, 2);
        x.buy(0);
        x.setRate(9);
        x.advance(2);
        x.setRate(2);
        fetch(x, 2, 0);
        fetch(x, 2, 1);
        x.touch(3, 7);
        x.touch(4, 7);
        x.advance(1);
        x.touch(0, 7);
        x.setWage(2, 3);
        x.setWage(4, 1);
        Checks.due("busy: states", 10000 * x.stateOf(0) + 1000 * x.stateOf(1) + 100 * x.stateOf(2)
            + 10 * x.stateOf(3) + x.stateOf(4), 12011);
        Checks.due("busy: loans()", x.loans(), 3);
        Checks.due("busy: partiesOf(2)", x.partiesOf(2), 2);
        Checks.due("busy: lasts", x.lasts(2) && !x.lasts(1) && !x.lasts(0));
        Checks.due("busy: requests()", x.requests(), 3);
        Checks.due("busy: the nearest", x.head() - x.requestAt(0) < x.requestAt(1) - x.head());
        Checks.due("busy: pages", x.pageIn(2) == 0 && x.age(2) > 0 && x.pageIn(0) == 1 && x.age(0) > 0);
        return x;
    }

    /** Frame 0 of process 0 has been lent so many times to process 1, and paid back; the rate is 0. */
    static AlmsKernel afterLoans(int count) {
        AlmsKernel x = withFrames(0, 1);
        x.setRate(0);
        for (int loan = 0; loan < count; loan++) {
            fetch(x, 1, 0);
            x.payBack(loan);
        }
        Checks.due("scene: loans()", x.loans(), count);
        return x;
    }
}
