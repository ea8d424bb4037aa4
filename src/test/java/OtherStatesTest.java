/**
 * What the document does not name as a condition is none: calls and steps of a tick in states of which one could
 * think that they matter, by promise. Whoever waits or sleeps, is poor or rich, lends or borrows elsewhere.
 */
public final class OtherStatesTest {
    private static final int WAITING = AlmsKernel.WAITING;
    private static final int ASLEEP = AlmsKernel.ASLEEP;

    private OtherStatesTest() {
    }

    public static void main(String[] args) {
        promise2TheWageStaysInSleep();
        promise6OfOneThatWaits();
        promise7AHitCostsNothing();
        promise7Way2();
        promise7Way3OfOneThatWaits();
        promise7Way3OfASleeper();
        promise7InAFrameOfASleeper();
        promise8ToASleeper();
        promise8ToOneWithNothing();
        promise8OfOneWithNothing();
        promise9Step2AnEmptyFrameCostsToo();
        promise9Step2TheOrderOfNumbers();
        promise9SleepOfOneTouchesNoOther();
        promise9Step3APoorerOneGives();
        promise9Step4TheLenderSleeps();
        promise25TheFrameHasAnotherOwner();
        promise27NoOtherCallChooses();
        Checks.end();
    }

    private static void promise2TheWageStaysInSleep() {
        String name = "Promise 2, 'the wage before': it stays in sleep, ";
        AlmsKernel x = Scenes.poorBorrower();
        x.setWage(1, 3);
        x.setRate(9);
        x.advance(1);
        Checks.due(name + "its process sleeps", x.stateOf(1), ASLEEP);
        Checks.due(name + "with its last wage", x.purse(1), 3);
        x.setWage(2, 9);
        x.advance(2);
        Checks.due(name + "with alms it wakes", x.stateOf(1), AlmsKernel.AWAKE);
        Checks.due(name + "with 5", x.purse(1), 5);
        x.advance(1);
        Checks.due(name + "and has its wage again", x.purse(1), 8);
        Checks.due(name + "setWage", x.setWage(1, 0), 3);
    }

    private static void promise6OfOneThatWaits() {
        String name = "Promise 6, a page of one that waits: ";
        AlmsKernel x = Scenes.withFrames(0, 2);
        Scenes.fetch(x, 0, 3);
        x.touch(0, 7);
        Checks.due(name + "in its other frame", x.drop(0), 3);
        Checks.due(name + "it waits on", x.stateOf(0), WAITING);
        Checks.due(name + "its request stays", x.requestAt(0), 7);
        AlmsKernel y = waitingBorrower();
        Checks.due(name + "in a borrowed frame", y.drop(0), 0);
        Checks.due(name + "it waits on", y.stateOf(1), WAITING);
        Checks.due(name + "the loan lasts", y.lasts(0));
    }

    /** Process 1 has its page 0 in frame 0, which it borrowed of process 0, and waits for its page 7 in frame 1. */
    private static AlmsKernel waitingBorrower() {
        AlmsKernel x = Scenes.afterLoans(0);
        Scenes.fetch(x, 1, 0);
        x.buy(1);
        Checks.due("scene: it waits in its own frame", x.touch(1, 7), 1);
        return x;
    }

    private static void promise7AHitCostsNothing() {
        String name = "Promise 7, a page that is there: ";
        AlmsKernel x = borrowerWithNothing();
        Checks.due(name + "in a borrowed frame, with nothing at the rate 9", x.touch(1, 0), AlmsKernel.NONE);
        Checks.purses(name + "nobody pays", x, 12, 0);
        x.setRate(0);
        Scenes.fetch(x, 1, 1);
        x.setRate(9);
        Checks.due(name + "in its own frame, with nothing at the rate 9", x.touch(1, 1), AlmsKernel.NONE);
        Checks.due(name + "way 4 with nothing", x.touch(1, 2), 0);
        Checks.purses(name + "nobody pays for a fault", x, 12, 0);
        Checks.due(name + "nor is that interest", x.interest(0), 0);
    }

    /** Process 1 has nothing but its own frame 1, and its page 0 in frame 0 of process 0; the rate is 9. */
    private static AlmsKernel borrowerWithNothing() {
        AlmsKernel x = Scenes.afterLoans(0);
        Scenes.bringPurse(x, 1, 8);
        Scenes.fetch(x, 1, 0);
        x.buy(1);
        x.setRate(9);
        return x;
    }

    private static void promise7Way2() {
        String name = "Promise 7, way 2: ";
        AlmsKernel x = waitingBorrower();
        Checks.due(name + "of a borrower that waits in another frame", x.touch(0, 5), 0);
        Checks.dueNot(name + "the loan ends", x.lasts(0));
        Checks.due(name + "the borrower waits on", x.stateOf(1), WAITING);
        Checks.due(name + "both requests", x.requestAt(0) * 100 + x.requestAt(1), 515);
        Checks.due(name + "the lender waits", x.stateOf(0), WAITING);
        Checks.due(name + "a fault of the lender", x.faults(0), 1);
        Checks.due(name + "no fault of the borrower", x.faults(1), 2);
        x.advance(15);
        Checks.due(name + "both come", x.stateOf(0) + x.stateOf(1), 0);
        AlmsKernel y = Scenes.afterLoans(0);
        Scenes.fetch(y, 1, 0);
        y.touch(1, 0);
        Checks.due(name + "of a page that was touched at this tick", y.touch(0, 5), 0);
        AlmsKernel poor = Scenes.afterLoans(0);
        Scenes.fetch(poor, 1, 0);
        Scenes.bringPurse(poor, 0, 8);
        poor.buy(0);
        Scenes.fetch(poor, 0, 0);
        poor.setRate(9);
        Checks.due(name + "with nothing at the rate 9", poor.touch(0, 1), 0);
        Checks.purses(name + "nobody pays", poor, 0, 20);
    }

    private static void promise7Way3OfOneThatWaits() {
        String name = "Promise 7, way 3, an old page of one that waits: ";
        AlmsKernel x = Scenes.withFrames(0, 2);
        Scenes.fetch(x, 0, 0);
        x.advance(4);
        x.touch(0, 7);
        Checks.due(name + "the age 5", x.touch(1, 0), 0);
        Checks.due(name + "it waits on", x.stateOf(0), WAITING);
        Checks.due(name + "both requests", x.requestAt(0) * 100 + x.requestAt(1), 708);
        Checks.due(name + "holder(1)", x.holder(1), 0);
    }

    private static void promise7Way3OfASleeper() {
        String name = "Promise 7, way 3, an old page of a sleeper: ";
        AlmsKernel x = sleeperWithPage();
        Checks.refused(Checks.STATE, name + "the age 4", OtherStatesTest::sleeperWithPage, y -> y.touch(2, 0));
        x.advance(1);
        Checks.due(name + "it sleeps", x.stateOf(0), ASLEEP);
        Checks.due(name + "the age 5", x.touch(2, 0), 0);
        Checks.due(name + "it sleeps on", x.stateOf(0), ASLEEP);
        Checks.due(name + "its loan", x.partiesOf(1), 2);
        x.advance(1);
        Checks.due(name + "with the interest it wakes", x.stateOf(0), AlmsKernel.AWAKE);
        Checks.purses(name + "the interest", x, 13, 16, 7);
    }

    /** Process 0 sleeps; its page in frame 0, the only one that is owned, has the age 4. Nobody gives alms. */
    private static AlmsKernel sleeperWithPage() {
        AlmsKernel x = Scenes.oneAsleep();
        x.sell(1);
        for (int process = 1; process < 5; process++) {
            Scenes.bringPurse(x, process, 16);
        }
        Checks.due("scene: age(0)", x.age(0), 4);
        return x;
    }

    private static void promise7InAFrameOfASleeper() {
        AlmsKernel x = Scenes.sleepingLender();
        Scenes.untilAwake(x, 2);
        x.advance(1);
        Checks.due("scene: the page came a tick before the last", x.age(1), 2);
        Checks.due("Promise 7, a page that is there, in a frame of a sleeper", x.touch(2, 7), AlmsKernel.NONE);
        Checks.due("Promise 15, 'touched last', in a frame of a sleeper", x.age(1), 0);
        Scenes.bringPurse(x, 2, 8);
        x.setRate(9);
        Checks.due("Promise 7, way 4, in a frame of a sleeper", x.touch(2, 6), 1);
        x.setRate(0);
        Scenes.untilAwake(x, 2);
        x.drop(1);
        Checks.due("Promise 7, way 1, in a frame of a sleeper", x.touch(2, 5), 1);
        Checks.due("Promise 7: it sleeps on", x.stateOf(1), ASLEEP);
        Checks.due("Promise 7: no other loan", x.loans(), 2);
    }

    private static void promise8ToASleeper() {
        String name = "Promise 8, 'Returns the lender', who sleeps: ";
        AlmsKernel x = Scenes.sleepingLender();
        Scenes.untilAwake(x, 2);
        Checks.due(name + "the lender", x.stateOf(1), ASLEEP);
        x.setRate(9);
        Checks.due(name + "payBack", x.payBack(1), 1);
        Checks.due(name + "holder(1)", x.holder(1), 1);
        Checks.due(name + "it sleeps on", x.stateOf(1), ASLEEP);
        Checks.purses("Promise 8: it costs nothing", x, 16, 1, 15);
    }

    private static void promise8ToOneWithNothing() {
        String name = "Promise 8, 'Returns the lender', who has nothing: ";
        AlmsKernel x = Scenes.afterLoans(0);
        Scenes.bringPurse(x, 0, 8);
        x.buy(0);
        Checks.due("scene: the loan", Scenes.fetch(x, 1, 0), 0);
        Checks.due(name + "at the rate 0", x.payBack(0), 0);
        Checks.due("scene: another loan", Scenes.fetch(x, 1, 0), 0);
        x.setRate(9);
        Checks.due(name + "at the rate 9", x.payBack(1), 0);
        Checks.purses(name + "nobody pays", x, 0, 20);
    }

    private static void promise8OfOneWithNothing() {
        String name = "Promise 8, 'A borrower pays a loan back', with nothing in its purse: ";
        AlmsKernel x = borrowerWithNothing();
        Checks.due(name + "payBack", x.payBack(0), 0);
        Checks.purses(name + "nobody pays", x, 12, 0);
        Checks.due(name + "no interest", x.interest(0), 0);
        x.advance(1);
        Checks.due(name + "it does not sleep then", x.stateOf(1), AlmsKernel.AWAKE);
    }

    private static void promise9Step2AnEmptyFrameCostsToo() {
        String name = "Promise 9, step 2, 'each loan that lasts costs its borrower the rate': ";
        AlmsKernel x = Scenes.afterLoans(0);
        Scenes.fetch(x, 1, 0);
        x.drop(0);
        x.setRate(4);
        x.advance(2);
        Checks.purses(name + "of an empty frame", x, 20, 12);
        Checks.due(name + "its interest", x.interest(0), 8);
        x.advance(4);
        Checks.due(name + "until it cannot pay", x.stateOf(1), ASLEEP);
        Checks.due(name + "its owner holds the empty frame", x.holder(0), 0);
    }

    /** The loan 0 is of frame 2 and the loan 1 of frame 0; what is left for one alone pays the loan 0. */
    private static void promise9Step2TheOrderOfNumbers() {
        String name = "Promise 9, step 2, 'By rising numbers', not by frames: ";
        AlmsKernel x = Scenes.withoutGivers();
        x.setRate(0);
        x.buy(0);
        x.buy(0);
        Scenes.fetch(x, 0, 0);
        Scenes.fetch(x, 0, 1);
        x.buy(2);
        Checks.due("scene: the loan 0", Scenes.fetch(x, 1, 0), 2);
        x.advance(9);
        Checks.due("scene: the loan 1", Scenes.fetch(x, 1, 1), 0);
        x.setRate(9);
        x.advance(1);
        Checks.due(name + "the loan 0", x.interest(0), 9);
        Checks.due(name + "the loan 1", x.interest(1), 0);
        Checks.purses(name + "who has it", x, 0, 7, 17);
    }

    private static void promise9SleepOfOneTouchesNoOther() {
        String name = "Promise 9, step 2, 'it is put to sleep': ";
        AlmsKernel x = Scenes.withoutGivers();
        x.buy(2);
        Scenes.fetch(x, 2, 0);
        x.buy(0);
        x.setRate(0);
        Checks.due("scene: the loan", Scenes.fetch(x, 1, 0), 1);
        int age = x.age(0);
        x.setRate(9);
        x.advance(2);
        Checks.dueNot(name + "its loan ends", x.lasts(0));
        Checks.due(name + "the page of another stays", x.pageIn(0), 0);
        Checks.due(name + "the age of another's page goes on", x.age(0), age + 2);
        AlmsKernel y = Scenes.oneAsleep();
        y.advance(1);
        Checks.due("Promise 9, step 3, 'it is AWAKE'", y.stateOf(0), AlmsKernel.AWAKE);
        Checks.due("Promise 9, step 3: the age of its page goes on", y.age(0), 5);
        AlmsKernel lender = Scenes.sleepingLender();
        lender.setWage(1, 9);
        lender.advance(1);
        Checks.due("Promise 9, step 1: no wage for a sleeper that lends", lender.purse(1), 1);
    }

    /** A sleeper has its alms of the richest that is not ASLEEP, though it is richer by far. */
    private static void promise9Step3APoorerOneGives() {
        String name = "Promise 9, step 3, 'gives it 1': ";
        AlmsKernel x = Scenes.beforeRichSleeper(3, 2, 1, 4);
        x.setRate(0);
        Scenes.bringPurse(x, 0, 20);
        x.setRate(9);
        x.advance(1);
        Checks.purses(name + "of 20 to one that has 26; that gives to the next, then", x, 19, 7, 7, 26, 5);
        Checks.due(name + "both are awake", x.stateOf(3) + x.stateOf(4), 0);
    }

    private static void promise9Step4TheLenderSleeps() {
        String name = "Promise 9, step 4, 'the process is AWAKE': ";
        AlmsKernel x = Scenes.sleepingLender();
        int ticks = x.requestAt(0) - x.head();
        x.advance(ticks - 1);
        Checks.due(name + "not yet", x.stateOf(2), WAITING);
        x.advance(1);
        Checks.due(name + "in a frame of a sleeper", x.stateOf(2), AlmsKernel.AWAKE);
        Checks.due(name + "who sleeps on", x.stateOf(1), ASLEEP);
        Checks.due(name + "the page is there", x.age(1), 1);
    }

    private static void promise25TheFrameHasAnotherOwner() {
        String name = "Promise 25, 'the parties of a loan', whose frame is sold to another: ";
        AlmsKernel x = Scenes.afterLoans(1);
        x.sell(0);
        Checks.due(name + "free", x.partiesOf(0), 1);
        Checks.due("scene: buy(3)", x.buy(3), 0);
        Checks.due(name + "bought", x.partiesOf(0), 1);
        Checks.due("scene: lent", x.touch(4, 0), 0);
        x.setRate(2);
        x.advance(1);
        Checks.due(name + "lent", x.partiesOf(0), 1);
        Checks.due(name + "the new loan", x.partiesOf(1), 34);
        Checks.due("Promise 26: the interest of the old loan", x.interest(0), 0);
        Checks.due("Promise 26: the interest of the new loan", x.interest(1), 2);
    }

    /** What the calls between two ticks do to others leaves the chosen request chosen, though one is nearer. */
    private static void promise27NoOtherCallChooses() {
        for (int call = 0; call <= 9; call++) {
            AlmsKernel x = farChosen();
            int answer = otherCall(x, call);
            int head = x.head();
            x.advance(1);
            String name = "Promise 27, 'it stays chosen', after the call " + call + " that answered " + answer;
            Checks.due(name, x.head(), head + 1);
        }
    }

    /** The request at 24 is chosen, with the head at 10; those at 7 and at 16 came after that. */
    private static AlmsKernel farChosen() {
        AlmsKernel x = Scenes.oneFrameEach();
        x.setRate(0);
        Scenes.fetch(x, 1, 0);
        Checks.due("scene: a borrowed frame", Scenes.fetch(x, 1, 1), 0);
        x.buy(0);
        x.touch(3, 0);
        x.advance(1);
        x.touch(0, 7);
        x.buy(2);
        x.touch(2, 0);
        Checks.due("scene: head()", x.head(), 10);
        Checks.due("scene: requests()", x.requests(), 3);
        return x;
    }

    private static int otherCall(AlmsKernel x, int call) {
        switch (call) {
            case 0:
                return x.buy(4);
            case 1:
                return x.sell(4);
            case 2:
                return x.drop(1);
            case 3:
                return x.drop(0);
            case 4:
                return x.payBack(0);
            case 5:
                return x.touch(1, 0);
            case 6:
                return x.touch(1, 2);
            case 7:
                return x.touch(4, 0);
            case 8:
                return x.setRate(1);
            default:
                return x.setWage(3, 9);
        }
    }
}
