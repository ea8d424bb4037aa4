/** What happens at a tick but for the disk: wages, what loans cost, sleep, alms and waking, by sentence. */
public final class TickBoundariesTest {
    private static final int SLEEPER = AlmsKernel.ASLEEP;

    private TickBoundariesTest() {
    }

    public static void main(String[] args) {
        promise9TheTick50000();
        promise9LetsTicksPass();
        promise10Tick();
        step1WhoGetsItsWage();
        step1BeforeStep2();
        step2LessThanTheRate();
        step2RateNothing();
        step2ByRisingNumbersOneBorrower();
        step2ByRisingNumbersLenderAndBorrower();
        step2AllItsLoansEnd();
        step2APageThatIsComingIsDropped();
        step2WhichTheLenderGets();
        step3APurseOf20OrMore();
        step3TheGreatestPurse();
        step3NotAsleep();
        step3ByRisingNumbers();
        step3APurseOf5OrMore();
        step3WakesInTheTickInWhichItFellAsleep();
        promise20States();
        promise26Interest();
        Checks.end();
    }

    private static void promise9TheTick50000() {
        String name = "Promise 9, 'if the tick would be above 50000': ";
        AlmsKernel x = at(49800);
        Checks.due(name + "49800 and 200", x.advance(200), 50000);
        Checks.due("Promise 10: 50000", x.tick(), 50000);
        Checks.refused(x, Checks.STATE, name + "50000 and 1", () -> x.advance(1));
        Checks.refused(x, Checks.STATE, name + "50000 and 200", () -> x.advance(200));
        AlmsKernel y = at(49801);
        Checks.refused(y, Checks.STATE, name + "49801 and 200", () -> y.advance(200));
        Checks.due(name + "49801 and 199", y.advance(199), 50000);
        AlmsKernel z = at(49999);
        Checks.refused(z, Checks.STATE, name + "49999 and 2", () -> z.advance(2));
        Checks.due(name + "49999 and 1", z.advance(1), 50000);
        Checks.due("Promise 7: a touch at the tick 50000", z.touch(0, 7), 0);
        Checks.refused(Checks.STATE, name + "while much is going on", () -> {
            AlmsKernel busy = at(49990);
            busy.setWage(1, 9);
            busy.touch(1, 7);
            return busy;
        }, busy -> busy.advance(11));
    }

    private static AlmsKernel at(int tick) {
        AlmsKernel x = Scenes.oneFrameEach();
        Scenes.untilTick(x, tick);
        return x;
    }

    private static void promise9LetsTicksPass() {
        for (int ticks : new int[] {1, 2, 199, 200}) {
            AlmsKernel atOnce = Scenes.busy();
            AlmsKernel oneByOne = Scenes.busy();
            int before = atOnce.tick();
            String name = "Promise 9, 'Lets ticks pass', " + ticks;
            Checks.due(name + ", 'Returns the tick then'", atOnce.advance(ticks), before + ticks);
            for (int i = 0; i < ticks; i++) {
                oneByOne.advance(1);
            }
            Checks.sameLater(name + " at once or one by one", atOnce, oneByOne);
        }
    }

    private static void promise10Tick() {
        AlmsKernel x = new AlmsKernel();
        Checks.due("Promise 10, 'Ticks are numbered from 0'", x.tick(), 0);
        x.buy(0);
        x.touch(0, 0);
        Checks.due("Promise 10: no other call lets ticks pass", x.tick(), 0);
        x.advance(1);
        Checks.due("Promise 10, 'It is the next tick'", x.tick(), 1);
    }

    private static void step1WhoGetsItsWage() {
        String name = "Promise 9, step 1, 'Each process that is not ASLEEP gets its wage': ";
        AlmsKernel x = Scenes.oneFrameEach();
        x.touch(1, 7);
        for (int process = 0; process < 5; process++) {
            x.setWage(process, 2 * process);
        }
        x.advance(1);
        Checks.due(name + "process 1 waits", x.stateOf(1), AlmsKernel.WAITING);
        Checks.purses(name + "all of them", x, 12, 14, 16, 18, 20);
        AlmsKernel y = asleepWith(4);
        y.setWage(1, 9);
        y.advance(1);
        Checks.due(name + "a sleeper does not", y.purse(1), 4);
        y.advance(50);
        Checks.due(name + "a sleeper does not, later neither", y.purse(1), 4);
        // In the tick in which it wakes it gets none: the wages come first.
        y.setWage(0, 9);
        y.advance(1);
        Checks.due(name + "not in the tick in which it wakes", y.purse(1), 5);
        Checks.due(name + "it is awake", y.stateOf(1), AlmsKernel.AWAKE);
        y.advance(1);
        Checks.due(name + "but in the next", y.purse(1), 14);
    }

    /**
     * Process 1 sleeps with that purse, 4 or less; process 0 has its empty frame 0, and 13 in its purse;
     * the others have 16, so that nobody gives alms. The rate is 5, and nothing is lent.
     */
    private static AlmsKernel asleepWith(int purse) {
        AlmsKernel x = borrowerWith(purse + 4, 4, 7);
        x.advance(1);
        Checks.due("scene: it has paid once", x.purse(1), purse);
        x.setRate(5);
        x.advance(1);
        Checks.due("scene: it sleeps", x.stateOf(1), SLEEPER);
        Checks.due("scene: with that purse", x.purse(1), purse);
        Scenes.bringPurse(x, 0, 13);
        return x;
    }

    /** Process 1 has that purse, at least the rate, and waits for that page in frame 0, which process 0 lends it. */
    private static AlmsKernel borrowerWith(int purse, int rate, int page) {
        AlmsKernel x = Scenes.withoutGivers();
        Scenes.bringPurse(x, 1, purse);
        x.buy(0);
        x.setRate(rate);
        Checks.due("scene: the loan", x.touch(1, page), 0);
        return x;
    }

    private static void step1BeforeStep2() {
        String name = "Promise 9, step 1 before step 2: ";
        for (int wage = 0; wage <= 2; wage++) {
            AlmsKernel x = borrowerWith(8, 8, 7);
            x.setRate(9);
            x.setWage(1, wage);
            x.advance(1);
            Checks.due(name + "8 and the wage " + wage + " for the rate 9, the loan", x.lasts(0) ? 1 : 0,
                wage >= 1 ? 1 : 0);
            Checks.due(name + "8 and the wage " + wage + ", the purse", x.purse(1), wage >= 1 ? wage - 1 : 8);
        }
    }

    private static void step2LessThanTheRate() {
        String name = "Promise 9, step 2, 'If the purse of the borrower is less than the rate': ";
        for (int rate = 1; rate <= 9; rate++) {
            AlmsKernel x = secondLoanOf(rate);
            x.setRate(rate);
            x.advance(1);
            Checks.due(name + rate + " is not less than " + rate, x.lasts(1));
            Checks.due(name + "it is WAITING still", x.stateOf(1), AlmsKernel.WAITING);
            Checks.due(name + "nothing is left of " + rate, x.purse(1), 0);
            Checks.due(name + "the interest " + rate, x.interest(1), rate);
            x.advance(1);
            Checks.dueNot(name + "0 is less than " + rate, x.lasts(1));
            Checks.due(name + "it is ASLEEP", x.stateOf(1), SLEEPER);
            Checks.due(name + "it pays nothing then", x.purse(1), 0);
            Checks.due(name + "nor gets the lender", x.interest(1), rate);
            AlmsKernel less = secondLoanOf(rate - 1);
            int lender = less.purse(0);
            less.setRate(rate);
            less.advance(1);
            Checks.dueNot(name + (rate - 1) + " is less than " + rate, less.lasts(1));
            Checks.due(name + (rate - 1) + " stays", less.purse(1), rate - 1);
            Checks.due(name + "no interest", less.interest(1), 0);
            Checks.due(name + "the lender gets nothing", less.purse(0), lender);
            Checks.due(name + "asleep, or awake again with 5", less.stateOf(1),
                rate - 1 >= 5 ? AlmsKernel.AWAKE : SLEEPER);
        }
    }

    /** Process 1 has that purse, and by the loan 1 waits in frame 0; what it had above is paid for the loan 0. */
    private static AlmsKernel secondLoanOf(int purse) {
        AlmsKernel x = borrowerWith(Math.max(purse, 4), 0, 7);
        x.setRate(1);
        for (int i = 0; i < 4 && x.purse(1) > purse; i++) {
            x.advance(1);
        }
        Checks.due("scene: the purse of process 1", x.purse(1), purse);
        x.setRate(0);
        Scenes.untilAwake(x, 1);
        x.payBack(0);
        Checks.due("scene: lent again", x.touch(1, 0), 0);
        return x;
    }

    private static void step2RateNothing() {
        String name = "Promise 9, step 2, nothing is not less than the rate 0: ";
        AlmsKernel x = borrowerWith(8, 8, 7);
        x.advance(1);
        Checks.due(name + "the purse", x.purse(1), 0);
        x.setRate(0);
        x.advance(100);
        Checks.due(name + "the loan lasts", x.lasts(0));
        Checks.due(name + "it is AWAKE", x.stateOf(1), AlmsKernel.AWAKE);
        x.setRate(1);
        x.advance(1);
        Checks.due(name + "but less than 1", x.stateOf(1), SLEEPER);
    }

    private static void step2ByRisingNumbersOneBorrower() {
        String name = "Promise 9, step 2, 'By rising numbers, each loan that lasts': ";
        for (int purse = 8; purse <= 18; purse++) {
            AlmsKernel x = twoLoans(purse);
            x.setRate(9);
            x.advance(1);
            boolean first = purse >= 9;
            boolean second = purse >= 18;
            Checks.due(name + purse + " for two at 9, the first", x.interest(0), first ? 9 : 0);
            Checks.due(name + purse + " for two at 9, the second", x.interest(1), second ? 9 : 0);
            Checks.due(name + purse + " for two at 9, both last or none", x.borrowed(1), second ? 2 : 0);
            Checks.due(name + purse + " for two at 9, what is left", x.purse(1), purse % 9);
        }
    }

    /** Process 1 has borrowed the frames 0 and 1 of process 0, and has that purse; the rate is 0. */
    private static AlmsKernel twoLoans(int purse) {
        AlmsKernel x = Scenes.withoutGivers();
        x.buy(0);
        x.buy(0);
        x.setRate(0);
        Scenes.bringPurse(x, 1, purse);
        Scenes.fetch(x, 1, 0);
        Scenes.fetch(x, 1, 1);
        Checks.due("scene: borrowed(1)", x.borrowed(1), 2);
        return x;
    }

    private static void step2ByRisingNumbersLenderAndBorrower() {
        String name = "Promise 9, step 2, 'By rising numbers': ";
        AlmsKernel x = Scenes.withoutGivers();
        // Process 1 has 8. It lends by the loan 0 and borrows by the loan 1: what it gets first pays then.
        x.buy(1);
        Checks.due("scene: process 2 borrows of 1", x.touch(2, 7), 0);
        x.buy(0);
        x.setRate(8);
        Checks.due("scene: process 1 borrows of 0", x.touch(1, 7), 1);
        x.setRate(9);
        x.advance(1);
        Checks.due(name + "first a lender", x.lasts(1));
        Checks.purses(name + "first a lender", x, 17, 8, 7);

        AlmsKernel y = Scenes.withoutGivers();
        y.buy(0);
        Checks.due("scene: process 1 borrows of 0", y.touch(1, 7), 0);
        y.buy(1);
        Checks.due("scene: process 2 borrows of 1", y.touch(2, 7), 1);
        y.setRate(9);
        y.advance(1);
        Checks.dueNot(name + "first a borrower", y.lasts(0));
        Checks.due(name + "what it lent goes on", y.lasts(1));
        Checks.purses(name + "first a borrower", y, 8, 17, 7);
    }

    private static void step2AllItsLoansEnd() {
        String name = "Promise 9, step 2, 'all loans of which it is the borrower end': ";
        AlmsKernel x = twoLoans(8);
        Scenes.bringPurse(x, 0, 8);
        x.buy(0);
        Checks.due("scene: another borrower", x.touch(3, 0), 2);
        x.touch(1, 7);
        x.setRate(9);
        x.advance(1);
        Checks.dueNot(name + "the first", x.lasts(0));
        Checks.dueNot(name + "the second", x.lasts(1));
        Checks.due(name + "not that of another", x.lasts(2));
        for (int frame = 0; frame < 2; frame++) {
            Checks.due("Promise 9, 'then the frame is empty': " + frame, x.pageIn(frame), AlmsKernel.NONE);
            Checks.due("Promise 9, 'and held by its owner': " + frame, x.holder(frame), 0);
        }
        Checks.due(name + "the frame of another", x.holder(2), 3);

        AlmsKernel lender = Scenes.sleepingLender();
        Checks.due("Promise 9, step 2: not those of which it is the lender", lender.lasts(1));
        Checks.due("Promise 9, step 2: the holder of what it lent", lender.holder(1), 2);
        Checks.dueNot(name + "of the lender", lender.lasts(0));

        AlmsKernel ended = Scenes.withoutGivers();
        ended.setRate(0);
        ended.buy(0);
        Scenes.fetch(ended, 1, 0);
        ended.payBack(0);
        Scenes.fetch(ended, 2, 3);
        ended.buy(0);
        Scenes.fetch(ended, 1, 1);
        ended.setWage(2, 9);
        Scenes.bringPurse(ended, 1, 16);
        ended.setRate(9);
        ended.advance(2);
        Checks.dueNot("scene: it could not pay", ended.lasts(2));
        Checks.due(name + "that of the frame is another's now", ended.holder(0), 2);
        Checks.due(name + "and its page is there", ended.pageIn(0), 3);
        Checks.due(name + "the other's loan lasts", ended.lasts(1));
    }

    private static void step2APageThatIsComingIsDropped() {
        String name = "Promise 9, step 2, 'a page of it that is coming is dropped, the frame of that is empty': ";
        AlmsKernel x = Scenes.withoutGivers();
        x.buy(0);
        x.setRate(0);
        Scenes.fetch(x, 1, 0);
        x.buy(1);
        x.touch(1, 7);
        Checks.due("scene: it waits in its own frame", x.pageIn(1), 7);
        x.setRate(9);
        x.advance(1);
        Checks.due(name + "in its own frame", x.pageIn(1), AlmsKernel.NONE);
        Checks.due(name + "its holder", x.holder(1), 1);
        Checks.due(name + "its owner", x.owner(1), 1);
        AlmsKernel lowest = Scenes.withoutGivers();
        lowest.buy(1);
        Scenes.fetch(lowest, 1, 0);
        lowest.buy(0);
        lowest.setRate(0);
        Scenes.fetch(lowest, 1, 1);
        lowest.drop(0);
        Checks.due("scene: it waits in the frame 0", lowest.touch(1, 7), 0);
        lowest.setRate(9);
        lowest.advance(1);
        Checks.due(name + "in its own frame, the lowest", lowest.pageIn(0), AlmsKernel.NONE);
        AlmsKernel highest = Scenes.lastFrame();
        highest.setRate(0);
        Scenes.fetch(highest, 1, 0);
        Checks.due("scene: it borrows", Scenes.fetch(highest, 1, 1), 0);
        highest.drop(11);
        Checks.due("scene: it waits in the frame 11", highest.touch(1, 7), 11);
        highest.setRate(5);
        highest.advance(1);
        Checks.due(name + "in its own frame, the highest", highest.pageIn(11), AlmsKernel.NONE);
        AlmsKernel lender = Scenes.sleepingLender();
        Checks.due(name + "not that in a frame which it has lent", lender.pageIn(1), 7);
        Checks.due(name + "its request stays", lender.requestAt(0), 23);
        Checks.due(name + "its process waits on", lender.stateOf(2), AlmsKernel.WAITING);
        AlmsKernel borrowed = borrowerWith(4, 4, 7);
        borrowed.setRate(5);
        borrowed.advance(1);
        Checks.due(name + "in a borrowed frame", borrowed.pageIn(0), AlmsKernel.NONE);
        Checks.due(name + "its holder", borrowed.holder(0), 0);
        Checks.due(name + "no request", borrowed.requests(), 0);
        Checks.due(name + "the head stays", borrowed.head(), 0);
        AlmsKernel there = Scenes.oneAsleep();
        Checks.due(name + "one that is there in its own frame stays", there.pageIn(0), 0);
        Checks.due(name + "with its age", there.age(0), 4);
        AlmsKernel other = borrowerWith(4, 4, 7);
        other.buy(2);
        other.touch(2, 7);
        other.setRate(5);
        other.advance(1);
        Checks.due(name + "not that of another", other.requestAt(0), 23);
        Checks.due(name + "who waits on", other.stateOf(2), AlmsKernel.WAITING);
    }

    private static void step2WhichTheLenderGets() {
        String name = "Promise 9, step 2, 'costs its borrower the rate, which the lender gets': ";
        AlmsKernel x = borrowerWith(16, 9, 7);
        x.advance(1);
        Checks.purses(name + "awake", x, 17, 7, 16, 16, 16);
        AlmsKernel waiting = borrowerWith(16, 9, 7);
        waiting.buy(0);
        waiting.touch(0, 7);
        waiting.advance(1);
        Checks.due(name + "a lender that waits", waiting.purse(0), 9);
        AlmsKernel asleep = Scenes.sleepingLender();
        asleep.setRate(3);
        asleep.advance(1);
        Checks.purses(name + "a lender that sleeps", asleep, 16, 4, 12);
    }

    private static void step3APurseOf20OrMore() {
        String name = "Promise 9, step 3, 'a purse of 20 or more': ";
        AlmsKernel x = asleepWith(1);
        Scenes.bringPurse(x, 0, 19);
        Checks.due(name + "19 is not", x.purse(1), 1);
        x.advance(1);
        Checks.purses(name + "19 is not", x, 19, 1);
        x.setWage(0, 1);
        x.advance(1);
        Checks.purses(name + "20 is", x, 19, 2);
        x.setWage(0, 2);
        x.advance(1);
        Checks.purses(name + "21 is", x, 20, 3);
        x.setWage(0, 0);
        x.advance(1);
        Checks.purses(name + "20 is, without a wage", x, 19, 4);
        x.advance(1);
        Checks.purses("Promise 9, step 3, 'if there is one': there is none", x, 19, 4);
        Checks.due("Promise 9, step 3: it sleeps on", x.stateOf(1), SLEEPER);
    }

    private static void step3TheGreatestPurse() {
        String name = "Promise 9, step 3, 'the process with the greatest purse': ";
        AlmsKernel x = asleepWith(0);
        x.setWage(2, 9);
        x.setWage(3, 8);
        x.setWage(4, 9);
        x.advance(1);
        Checks.purses("Promise 9, step 3, 'of several the lowest'", x, 13, 1, 24, 24, 25);
        x.setWage(2, 0);
        x.setWage(3, 1);
        x.setWage(4, 1);
        x.advance(1);
        Checks.purses(name + "1 more than another", x, 13, 2, 24, 25, 25);
        x.setWage(3, 0);
        x.setWage(4, 0);
        x.advance(1);
        Checks.purses("Promise 9, step 3, 'of several the lowest': the last two", x, 13, 3, 24, 24, 25);
        Checks.due("Promise 9, step 3: it has bought nothing", x.touch(3, 7), 0);
        x.setRate(0);
        x.setWage(3, 9);
        x.advance(1);
        Checks.due("Promise 9, step 3: the giver waits", x.stateOf(3), AlmsKernel.WAITING);
        Checks.purses(name + "of one that waits", x, 13, 4, 24, 32, 25);
    }

    /** At the rate 9 process a has fallen asleep with 8, and had twice 9 then; process d has fallen asleep with 4. */
    private static AlmsKernel richSleeper(int a, int b, int c, int d) {
        AlmsKernel x = Scenes.beforeRichSleeper(a, b, c, d);
        x.advance(1);
        Checks.due("scene: b and c have paid", x.purse(b) + x.purse(c), 14);
        return x;
    }

    private static void step3NotAsleep() {
        String name = "Promise 9, step 3, 'that is not ASLEEP': ";
        AlmsKernel x = richSleeper(3, 2, 4, 1);
        Checks.due(name + "a sleeper that has 26 gives nothing", x.purse(1), 4);
        Checks.due(name + "it keeps 26", x.purse(3), 26);
        Checks.due(name + "and wakes after that", x.stateOf(3), AlmsKernel.AWAKE);
        Checks.due(name + "the other sleeps", x.stateOf(1), SLEEPER);
        AlmsKernel y = richSleeper(3, 2, 1, 4);
        Checks.due(name + "one that has just woken gives", y.purse(4), 5);
        Checks.due(name + "it has 1 less", y.purse(3), 25);
        Checks.due(name + "the other wakes", y.stateOf(4), AlmsKernel.AWAKE);
    }

    private static void step3ByRisingNumbers() {
        String name = "Promise 9, step 3, 'by rising numbers': ";
        AlmsKernel x = Scenes.withoutGivers();
        x.buy(0);
        x.buy(0);
        x.setRate(8);
        x.touch(3, 7);
        x.touch(1, 7);
        x.advance(2);
        Checks.purses("scene: both have nothing", x, 32, 0, 16, 0);
        x.buy(0);
        x.buy(0);
        x.setWage(0, 4);
        x.advance(1);
        Checks.due("scene: both sleep", x.stateOf(1) + x.stateOf(3), 2 * SLEEPER);
        Checks.purses(name + "20 are enough for the lower one alone", x, 19, 1, 16, 0);
        x.setWage(0, 2);
        x.advance(1);
        Checks.purses(name + "21 for both", x, 19, 2, 16, 1);
    }

    private static void step3APurseOf5OrMore() {
        String name = "Promise 9, step 3, 'If its purse is 5 or more then': ";
        AlmsKernel x = asleepWith(3);
        x.setWage(2, 9);
        x.advance(1);
        x.setWage(2, 0);
        Checks.due(name + "of 3, with alms", x.purse(1), 4);
        Checks.due(name + "4 is not", x.stateOf(1), SLEEPER);
        x.advance(1);
        Checks.due(name + "of 4, with alms", x.purse(1), 5);
        Checks.due(name + "5 is", x.stateOf(1), AlmsKernel.AWAKE);
        Checks.due("Promise 9, step 3: the giver", x.purse(2), 23);
        x.advance(1);
        Checks.due("Promise 9, step 3, 'each process that is ASLEEP': it gets no more", x.purse(1), 5);
        Checks.due("Promise 9, step 3: nor gives another", x.purse(2), 23);
        AlmsKernel alone = asleepWith(4);
        alone.advance(20);
        Checks.due(name + "4 is not, without alms", alone.stateOf(1), SLEEPER);
        for (int rate = 3; rate <= 5; rate++) {
            AlmsKernel lender = Scenes.sleepingLender();
            lender.setRate(rate);
            lender.advance(1);
            Checks.due(name + "of 1 and the interest " + rate, lender.purse(1), 1 + rate);
            Checks.due(name + (1 + rate) + ", without alms", lender.stateOf(1),
                rate == 3 ? SLEEPER : AlmsKernel.AWAKE);
        }
        AlmsKernel woken = asleepWith(4);
        woken.setWage(4, 4);
        woken.advance(1);
        Checks.refused(woken, Checks.STATE, "Promise 4, with 5: awake, but too poor", () -> woken.buy(1));
        Checks.due(name + "but touch", woken.touch(1, 0), 0);
    }

    private static void step3WakesInTheTickInWhichItFellAsleep() {
        String name = "Promise 9, step 3, asleep since this tick: ";
        for (int purse = 4; purse <= 8; purse++) {
            AlmsKernel x = borrowerWith(purse, purse, 7);
            x.setRate(9);
            x.advance(1);
            Checks.dueNot(name + "the loan ends", x.lasts(0));
            Checks.due(name + "its page is dropped", x.requests(), 0);
            Checks.due(name + "with " + purse, x.stateOf(1), purse >= 5 ? AlmsKernel.AWAKE : SLEEPER);
            Checks.due(name + "no alms of " + purse, x.purse(1), purse);
        }
        AlmsKernel given = borrowerWith(4, 4, 7);
        given.setRate(5);
        given.setWage(2, 4);
        given.advance(1);
        Checks.due(name + "with 4 and alms", given.stateOf(1), AlmsKernel.AWAKE);
        Checks.purses(name + "with 4 and alms", given, 8, 5, 19);
        AlmsKernel more = borrowerWith(8, 8, 7);
        more.setRate(9);
        more.setWage(2, 4);
        more.advance(1);
        Checks.purses(name + "with 8 it has alms all the same", more, 8, 9, 19);
    }

    private static void promise20States() {
        Checks.due("Promise 20, 'AWAKE = 0'", AlmsKernel.AWAKE, 0);
        Checks.due("Promise 20, 'WAITING = 1'", AlmsKernel.WAITING, 1);
        Checks.due("Promise 20, 'ASLEEP = 2'", AlmsKernel.ASLEEP, 2);
        Checks.due("'NONE = -1'", AlmsKernel.NONE, -1);
        AlmsKernel x = borrowerWith(8, 8, 7);
        Checks.due("Promise 20: WAITING as it touches", x.stateOf(1), AlmsKernel.WAITING);
        x.advance(1);
        Checks.due("Promise 20: WAITING still", x.stateOf(1), AlmsKernel.WAITING);
        x.advance(1);
        Checks.due("Promise 20: from WAITING to ASLEEP", x.stateOf(1), SLEEPER);
        x.setWage(2, 9);
        x.advance(4);
        Checks.due("Promise 20: ASLEEP with 4", x.stateOf(1), SLEEPER);
        x.advance(1);
        Checks.due("Promise 20: AWAKE with 5, not WAITING", x.stateOf(1), AlmsKernel.AWAKE);
    }

    private static void promise26Interest() {
        String name = "Promise 26, 'the interest that was paid for a loan': ";
        AlmsKernel x = borrowerWith(16, 9, 0);
        Checks.due(name + "none", x.interest(0), 0);
        x.advance(1);
        Checks.due(name + "the rate at that tick", x.interest(0), 9);
        x.setRate(0);
        x.advance(7);
        Checks.due(name + "nothing at the rate 0", x.interest(0), 9);
        x.setRate(7);
        x.advance(1);
        Checks.due(name + "the sum", x.interest(0), 16);
        x.advance(1);
        Checks.due(name + "not what it could not pay", x.interest(0), 16);
        Checks.dueNot("Promise 24: it has ended", x.lasts(0));
        AlmsKernel paidBack = borrowerWith(16, 1, 0);
        paidBack.advance(8);
        paidBack.payBack(0);
        paidBack.advance(8);
        Checks.due(name + "none after it has ended", paidBack.interest(0), 8);
        AlmsKernel rich = borrowerWith(16, 9, 0);
        rich.setWage(1, 9);
        Scenes.untilTick(rich, 50000);
        Checks.due(name + "a great sum", rich.interest(0), rich.purse(0) - 8);
        Checks.due(name + "the borrower has as much as before", rich.purse(1), 16);
    }
}
