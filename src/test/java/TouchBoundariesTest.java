/** Touches, their four ways and the loans, by sentence of the promises 7 and 8 and of the terms behind them. */
public final class TouchBoundariesTest {
    private TouchBoundariesTest() {
    }

    public static void main(String[] args) {
        notAwake();
        theLastFrame();
        aFrameThatItHoldsHasThePage();
        way1LowestEmptyFrameThatItHolds();
        way2LoansToOthers();
        way2PageNotComing();
        way2LowestNumber();
        way3PurseIsTheRateOrMore();
        way3FewerThan3Loans();
        way3FewerThan3LoansAsABorrower();
        way3Age5OrMore();
        way3GreatestPurse();
        way3TheOtherProcess();
        way3OwnAndHold();
        way3WhichFrame();
        way4GreatestAge();
        ifNoWayIsPossible();
        thereCanBe60Loans();
        otherWaysAt60Loans();
        whatPageTheFrameHadIsDropped();
        payBackLastsOrNot();
        payBackComing();
        promise22Faults();
        promise25Parties();
        Checks.end();
    }

    private static void notAwake() {
        String name = "Promise 7, 'if the process is not AWAKE': ";
        Checks.refused(Checks.STATE, name + "it waits, for that page", Scenes::busy, x -> x.touch(3, 7));
        Checks.refused(Checks.STATE, name + "it waits, another page", Scenes::busy, x -> x.touch(3, 0));
        Checks.refused(Checks.STATE, name + "it sleeps, a page that is there", Scenes::oneAsleep, x -> x.touch(0, 0));
        Checks.refused(Checks.STATE, name + "it sleeps, another page", Scenes::oneAsleep, x -> x.touch(0, 1));
        Checks.refused(Checks.STATE, name + "it waits, a page that is there", TouchBoundariesTest::waitingWithPage,
            x -> x.touch(0, 0));
        AlmsKernel x = waitingWithPage();
        x.advance(7);
        Checks.due(name + "its page has come", x.touch(0, 0), AlmsKernel.NONE);
        AlmsKernel woken = Scenes.oneAsleep();
        woken.advance(1);
        Checks.due(name + "it woke", woken.touch(0, 0), AlmsKernel.NONE);
        Checks.due(name + "another waits", Scenes.busy().touch(2, 0), AlmsKernel.NONE);
    }

    /** Process 0 has its page 0 in frame 0 and waits for its page 7 in frame 1. */
    private static AlmsKernel waitingWithPage() {
        AlmsKernel x = Scenes.withFrames(0, 2);
        Scenes.fetch(x, 0, 0);
        x.touch(0, 7);
        return x;
    }

    /** What goes for the other frames goes for the frame 11. */
    private static void theLastFrame() {
        AlmsKernel x = Scenes.lastFrame();
        Checks.due("Promise 7, way 1: the frame 11", x.touch(1, 3), 11);
        Checks.due("Promise 28: a request in the frame 11", x.requests(), 1);
        Checks.due("Promise 29: a request in the frame 11", x.requestAt(0), 11);
        Scenes.untilAwake(x, 1);
        Checks.due("Promise 14: the page in the frame 11", x.pageIn(11), 3);
        Checks.due("Promise 7: the page that the frame 11 has", x.touch(1, 3), AlmsKernel.NONE);
        Checks.due("Promise 15: the age of the frame 11", x.age(11), 0);
        x.setRate(5);
        Checks.due("Promise 7, way 4: the frame 11", x.touch(1, 4), 11);
        Scenes.untilAwake(x, 1);
        Checks.due("Promise 6: the frame 11", x.drop(11), 4);
        Checks.due("Promise 5: the frame 11", x.sell(11), 8);
        Checks.due("Promise 4: the frame 11", x.buy(1), 11);
    }

    private static void aFrameThatItHoldsHasThePage() {
        String name = "Promise 7, 'NONE if a frame that it holds has the page': ";
        AlmsKernel x = Scenes.oneFrameEach();
        Scenes.fetch(x, 0, 3);
        Checks.due(name + "its own", x.touch(0, 3), AlmsKernel.NONE);
        Checks.due(name + "it is AWAKE still", x.stateOf(0), AlmsKernel.AWAKE);
        Checks.due(name + "nothing is coming", x.requests(), 0);
        Checks.due(name + "that page of another process", x.touch(1, 3), 1);
        x.setRate(0);
        Scenes.untilAwake(x, 1);
        int borrowed = Scenes.fetch(x, 1, 4);
        Checks.due(name + "it borrowed", x.borrowed(1), 1);
        Checks.due(name + "in a borrowed frame", x.touch(1, 4), AlmsKernel.NONE);
        Checks.due(name + "its age", x.age(borrowed), 0);
        int lender = x.owner(borrowed);
        Checks.due(name + "in a frame that it has lent", x.touch(lender, 4) == AlmsKernel.NONE ? 1 : 0, 0);
    }

    private static void way1LowestEmptyFrameThatItHolds() {
        String name = "Promise 7, way 1, 'the lowest empty frame that it holds': ";
        AlmsKernel x = Scenes.withFrames(1, 3);
        Checks.due(name + "of three", Scenes.fetch(x, 1, 0), 0);
        Checks.due(name + "of two", Scenes.fetch(x, 1, 1), 1);
        Checks.due(name + "the only one", Scenes.fetch(x, 1, 2), 2);
        Checks.due("Promise 7, way 4: none is empty", Scenes.fetch(x, 1, 3), 0);
        x.drop(2);
        x.drop(1);
        Checks.due(name + "of two that were dropped", Scenes.fetch(x, 1, 4), 1);

        AlmsKernel y = Scenes.oneFrameEach();
        y.setRate(0);
        Scenes.fetch(y, 4, 0);
        Checks.due(name + "it holds no empty one, so it borrows", Scenes.fetch(y, 4, 1), 0);
        y.drop(4);
        y.drop(0);
        Checks.due(name + "a borrowed one is lower than its own", Scenes.fetch(y, 4, 2), 0);
        Checks.due(name + "its own", Scenes.fetch(y, 4, 3), 4);
        Checks.due(name + "no new loan", y.loans(), 1);
        // Before it calls in: process 0 has lent frame 0, which is not coming, and holds an empty frame, too.
        y.buy(0);
        Checks.due(name + "before way 2", y.touch(0, 0), 5);
        Checks.due(name + "the loan lasts", y.lasts(0));
    }

    private static void way2LoansToOthers() {
        String name = "Promise 7, way 2, 'of its loans to others': ";
        AlmsKernel x = Scenes.oneFrameEach();
        x.setRate(0);
        Scenes.fetch(x, 1, 0);
        Scenes.fetch(x, 1, 1);
        Checks.due(name + "the loan of process 0", x.partiesOf(0), 1);
        Scenes.fetch(x, 2, 0);
        Scenes.fetch(x, 3, 0);
        Scenes.fetch(x, 4, 0);
        // Process 1 is a borrower alone, and process 2 in no loan: both take a way after the second.
        Scenes.fetch(x, 2, 1);
        Checks.due(name + "none of another lender's", x.lasts(0));
        Scenes.fetch(x, 1, 2);
        Checks.due(name + "none of which it is the borrower", x.lasts(0));
        int loans = x.loans();
        Checks.due(name + "its own", x.touch(0, 0), 0);
        Checks.dueNot(name + "that ends", x.lasts(0));
        Checks.due(name + "before way 3", x.loans(), loans);
        Checks.due(name + "the owner holds it", x.holder(0), 0);
        Checks.due(name + "its page is coming in it", x.pageIn(0), 0);
        AlmsKernel ended = lent(8);
        Scenes.fetch(ended, 0, 0);
        ended.sell(ended.buy(0));
        ended.buy(2);
        Checks.due(name + "one that has ended is none, so way 3", ended.touch(0, 1), 1);
        Checks.due(name + "the new loan", ended.partiesOf(1), 120);
    }

    private static void way2PageNotComing() {
        String name = "Promise 7, way 2, 'of frames whose page is not coming': ";
        Checks.refused(Checks.STATE, name + "it is coming", () -> lent(0), x -> x.touch(0, 0));
        AlmsKernel before = lent(7);
        Checks.refused(before, Checks.STATE, name + "it is coming still, for one tick", () -> before.touch(0, 0));
        AlmsKernel x = lent(8);
        Checks.due(name + "it is there", x.touch(0, 0), 0);
        Checks.due(name + "and is dropped", x.pageIn(0), 0);
        Checks.due(name + "the borrower has it no more", x.borrowed(1), 0);
        AlmsKernel empty = lent(8);
        empty.drop(0);
        Checks.due(name + "the frame is empty", empty.touch(0, 0), 0);
        Checks.dueNot(name + "that loan ends", empty.lasts(0));
    }

    /** Process 0 has lent its only frame; the page of it is coming for 8 ticks. */
    private static AlmsKernel lent(int ticks) {
        AlmsKernel x = Scenes.withFrames(0, 1);
        x.setRate(0);
        x.touch(1, 0);
        if (ticks > 0) {
            x.advance(ticks);
        }
        return x;
    }

    private static void way2LowestNumber() {
        String name = "Promise 7, way 2, 'that with the lowest number': ";
        AlmsKernel x = lentInTurn();
        Checks.due(name + "not the lowest frame", Scenes.fetch(x, 0, 0), 1);
        Checks.dueNot(name + "the loan 1", x.lasts(1));
        Checks.due(name + "the loan 2 lasts", x.lasts(2));
        Checks.due(name + "then the next", Scenes.fetch(x, 0, 1), 0);
        Checks.dueNot(name + "the loan 2", x.lasts(2));
        AlmsKernel y = lentInTurn();
        y.touch(2, 5);
        Checks.due(name + "the lowest is in use again", y.pageIn(1), 5);
        Checks.due(name + "so the next", y.touch(0, 0), 0);
        Checks.due(name + "the loan 1 lasts", y.lasts(1));
        Checks.dueNot(name + "the loan 2 ends", y.lasts(2));
    }

    /** Process 0 has lent its frame 1 by the loan 1, then its frame 0 by the loan 2; the loan 0 has ended. */
    private static AlmsKernel lentInTurn() {
        AlmsKernel x = Scenes.withFrames(0, 2);
        x.setRate(0);
        Scenes.fetch(x, 1, 0);
        Scenes.fetch(x, 2, 0);
        x.payBack(0);
        Scenes.fetch(x, 3, 0);
        x.drop(1);
        Checks.due("scene: the loan 1", x.partiesOf(1), 102);
        Checks.due("scene: the loan 2", x.partiesOf(2), 3);
        return x;
    }

    private static void way3PurseIsTheRateOrMore() {
        String name = "Promise 7, way 3, 'if its purse is the rate or more': ";
        for (int rate = 5; rate <= 9; rate++) {
            int same = rate;
            AlmsKernel x = poorBorrower(rate, rate);
            Checks.due(name + "as much as the rate " + rate, x.touch(1, 0), 0);
            Checks.due(name + "nothing is paid for the loan yet", x.purse(1), rate);
            Checks.due(name + "a loan", x.loans(), 1);
            Checks.refused(Checks.STATE, name + "1 less than the rate " + rate,
                () -> poorBorrower(same - 1, same), y -> y.touch(1, 0));
        }
        AlmsKernel nothing = penniless(0);
        Checks.due(name + "nothing at the rate 0", nothing.touch(1, 7), 1);
        Checks.due(name + "a loan", nothing.loans(), 1);
        AlmsKernel one = penniless(1);
        Checks.due(name + "nothing at the rate 1, so way 4", one.touch(1, 7), 0);
        Checks.due(name + "no loan", one.loans(), 0);
    }

    /** Process 0 has an empty frame, process 1 none and that purse. */
    private static AlmsKernel poorBorrower(int purse, int rate) {
        AlmsKernel x = new AlmsKernel();
        Scenes.bringPurse(x, 1, purse);
        x.buy(0);
        x.setRate(rate);
        return x;
    }

    /** Process 1 has nothing but frame 0, with its page 0, and process 0 has the empty frame 1. */
    private static AlmsKernel penniless(int rate) {
        AlmsKernel x = new AlmsKernel();
        Scenes.bringPurse(x, 1, 8);
        x.buy(1);
        x.buy(0);
        Scenes.fetch(x, 1, 0);
        x.setRate(rate);
        Checks.due("scene: it has nothing", x.purse(1), 0);
        return x;
    }

    private static void way3FewerThan3Loans() {
        String name = "Promise 7, way 3, 'it has fewer than 3 loans': ";
        AlmsKernel x = Scenes.withFrames(0, 5);
        x.setRate(0);
        for (int loans = 0; loans < 3; loans++) {
            Checks.due(name + "it has " + loans, Scenes.fetch(x, 1, loans), loans);
            Checks.due(name + "it has one more", x.borrowed(1), loans + 1);
        }
        Checks.due(name + "it has 3, so way 4", Scenes.fetch(x, 1, 3), 0);
        Checks.due(name + "no fourth", x.loans(), 3);
        Checks.due(name + "another may", Scenes.fetch(x, 2, 0), 3);
        x.payBack(2);
        Checks.due(name + "2 last, one has ended", Scenes.fetch(x, 1, 4), 2);
        Checks.due(name + "3 last again, so way 4", x.touch(1, 5) < 3 ? 1 : 0, 1);
        Checks.due(name + "loans()", x.loans(), 5);
    }

    /** Three loans that it has given do not count: it is a borrower of two, and borrows a third time. */
    private static void way3FewerThan3LoansAsABorrower() {
        String name = "Promise 7, way 3, 'it has fewer than 3 loans', those of which it is the borrower: ";
        AlmsKernel x = Scenes.withFrames(0, 3);
        x.setRate(0);
        x.setWage(1, 9);
        x.advance(10);
        x.setWage(1, 0);
        // Process 1 borrows two, then buys three and lends them; all that it has lent is coming.
        Scenes.fetch(x, 1, 0);
        Scenes.fetch(x, 1, 1);
        for (int frame = 3; frame < 6; frame++) {
            Checks.due("scene: buy(1)", x.buy(1), frame);
        }
        Scenes.bringPurse(x, 1, 100);
        Checks.due("scene: lent", x.touch(2, 7), 3);
        Checks.due("scene: lent", x.touch(3, 7), 4);
        Checks.due("scene: lent", x.touch(4, 7), 5);
        Checks.due("scene: lent(1)", x.lent(1), 3);
        Checks.due(name + "a third", x.touch(1, 2), 2);
        Checks.due(name + "borrowed(1)", x.borrowed(1), 3);
    }

    private static void way3Age5OrMore() {
        String name = "Promise 7, way 3, 'the age 5 or more': ";
        Checks.refused(Checks.STATE, name + "coming", () -> Scenes.ownPage(0), x -> x.touch(1, 0));
        for (int age = 1; age <= 6; age++) {
            AlmsKernel x = Scenes.ownPage(age);
            Checks.due(name + "age(0)", x.age(0), age);
            if (age < 5) {
                Checks.refused(x, Checks.STATE, name + age + " is not", () -> x.touch(1, 0));
            } else {
                Checks.due(name + age + " is", x.touch(1, 0), 0);
                Checks.due(name + age + ", a loan", x.partiesOf(0), 1);
            }
        }
        Checks.refused(Checks.STATE, name + "4 is not", () -> Scenes.ownPage(4), x -> x.touch(1, 0));
        AlmsKernel touched = Scenes.ownPage(5);
        touched.touch(0, 0);
        Checks.refused(touched, Checks.STATE, name + "5, but touched then", () -> touched.touch(1, 0));
        touched.advance(4);
        Checks.refused(touched, Checks.STATE, name + "4 after the touch", () -> touched.touch(1, 0));
        touched.advance(1);
        Checks.due(name + "5 after the touch", touched.touch(1, 0), 0);
    }

    private static void way3GreatestPurse() {
        String name = "Promise 7, way 3, 'from the other process with the greatest purse': ";
        Checks.due(name + "1 more than the others", lendersWith(0, 0, 1, 0).touch(0, 0), 2);
        Checks.due(name + "1 less than the others", lendersWith(-1, 0, 0, 0).touch(0, 0), 1);
        Checks.due(name + "the last", lendersWith(0, 0, 0, 1).touch(0, 0), 3);
        String several = "Promise 7, way 3, 'of several the lowest': ";
        Checks.due(several + "all four", lendersWith(0, 0, 0, 0).touch(0, 0), 0);
        Checks.due(several + "the last two", lendersWith(0, 0, 1, 1).touch(0, 0), 2);
        Checks.due(several + "the second and the last", lendersWith(0, 1, 0, 1).touch(0, 0), 1);
        // The lowest process, not the lowest frame: process 4 has frame 0, and process 3 frame 1.
        AlmsKernel crossed = new AlmsKernel();
        crossed.buy(4);
        crossed.buy(3);
        Checks.due(several + "not the lowest frame", crossed.touch(0, 0), 1);
        AlmsKernel nothing = new AlmsKernel();
        Scenes.bringPurse(nothing, 1, 8);
        nothing.buy(1);
        Checks.due(name + "nothing is the greatest, if no other can lend", nothing.touch(0, 0), 0);
        Checks.due(name + "of nothing", nothing.purse(1), 0);

        String able = "Promise 7, way 3, 'of those that own and hold a frame': ";
        AlmsKernel young = lendersWith(0, 1, 0, 0);
        young.setRate(0);
        Scenes.fetch(young, 2, 0);
        Checks.due(able + "the richest has a page that is too young", young.touch(0, 0), 0);
        AlmsKernel old = lendersWith(0, 1, 0, 0);
        Scenes.fetch(old, 2, 0);
        old.advance(4);
        Checks.due(able + "the richest has one of the age 5, others empty ones", old.age(1), 5);
        Checks.due(able + "the richest lends", old.touch(0, 0), 1);
        AlmsKernel waiting = lendersWith(0, 1, 0, 0);
        waiting.touch(2, 0);
        Checks.due(able + "the richest has one whose page is coming", waiting.touch(0, 0), 0);
        AlmsKernel bare = lendersWith(0, 0, 0, 0);
        Checks.due(able + "the borrower is the richest", bare.purse(0) > bare.purse(1));
        bare.sell(0);
        Checks.due(able + "the richest has sold its own", bare.purse(1), 17);
        Checks.due(able + "so the next", bare.touch(0, 0), 1);
        AlmsKernel waits = Scenes.withFrames(1, 2);
        waits.touch(1, 7);
        Checks.due(able + "one that is WAITING", waits.touch(0, 0), 1);
        Checks.due(able + "one that is ASLEEP", sleeperThatLends().touch(2, 0), 0);
    }

    /** The processes 1 to 4 own the empty frames 0 to 3, and 13 in the purse, or so much more or less. */
    private static AlmsKernel lendersWith(int first, int second, int third, int fourth) {
        AlmsKernel x = new AlmsKernel();
        int[] more = {first, second, third, fourth};
        for (int lender = 1; lender <= 4; lender++) {
            x.setWage(lender, 1 + more[lender - 1]);
        }
        x.advance(1);
        for (int lender = 1; lender <= 4; lender++) {
            x.setWage(lender, 0);
            x.buy(lender);
        }
        return x;
    }

    /** Process 0 sleeps, and alone has an empty frame. */
    private static AlmsKernel sleeperThatLends() {
        AlmsKernel x = Scenes.oneAsleep();
        x.sell(1);
        x.drop(0);
        return x;
    }

    private static void way3TheOtherProcess() {
        for (int process = 0; process < 5; process++) {
            String name = "Promise 7, way 3, 'from the other process': not of itself, " + process + ", ";
            AlmsKernel x = Scenes.withFrames(process, 1);
            Scenes.fetch(x, process, 0);
            x.advance(100);
            Checks.due(name + "but by way 4", x.touch(process, 1), 0);
            Checks.due(name + "no loan", x.loans(), 0);
        }
    }

    private static void way3OwnAndHold() {
        String name = "Promise 7, way 3, 'own and hold': ";
        AlmsKernel x = Scenes.withFrames(0, 1);
        x.setRate(0);
        Scenes.fetch(x, 1, 0);
        x.advance(10);
        Checks.refused(x, Checks.STATE, name + "neither its owner nor its holder lends an old page",
            () -> x.touch(2, 0));
        x.drop(0);
        Checks.refused(x, Checks.STATE, name + "nor an empty frame", () -> x.touch(2, 0));
        x.payBack(0);
        Checks.due(name + "its owner holds it again", x.touch(2, 0), 0);
    }

    private static void way3WhichFrame() {
        String empty = "Promise 7, way 3, 'the frame is an empty one, if there is one': ";
        AlmsKernel x = Scenes.withFrames(0, 4);
        Scenes.fetch(x, 0, 0);
        x.advance(100);
        Checks.due(empty + "before a greater age, and the lowest", x.touch(1, 0), 1);
        AlmsKernel y = Scenes.withFrames(0, 2);
        Scenes.fetch(y, 0, 0);
        y.advance(100);
        Checks.due(empty + "the only one", y.touch(1, 0), 1);

        String greatest = "Promise 7, way 3, 'otherwise one with the greatest age': ";
        AlmsKernel z = threePages();
        z.touch(0, 0);
        z.touch(0, 2);
        z.advance(5);
        Checks.due(greatest + "the second", z.touch(1, 0), 1);
        AlmsKernel last = threePages();
        last.touch(0, 0);
        last.touch(0, 1);
        last.advance(5);
        Checks.due(greatest + "the last", last.touch(1, 0), 2);
        AlmsKernel oneYoung = threePages();
        oneYoung.advance(5);
        oneYoung.touch(0, 0);
        Checks.due(greatest + "not one that is too young", oneYoung.touch(1, 0), 1);

        String several = "Promise 7, way 3, 'of several the lowest': ";
        AlmsKernel same = threePages();
        same.touch(0, 2);
        same.touch(0, 1);
        same.touch(0, 0);
        same.advance(5);
        Checks.due(several + "three of the same age", same.touch(1, 0), 0);
        AlmsKernel two = threePages();
        two.touch(0, 2);
        two.touch(0, 1);
        two.advance(1);
        two.touch(0, 0);
        two.advance(5);
        Checks.due(several + "the last two", two.touch(1, 0), 1);
    }

    /** Process 0 has its pages 0 to 2 in the frames 0 to 2, the first the oldest. */
    private static AlmsKernel threePages() {
        AlmsKernel x = Scenes.withFrames(0, 3);
        for (int page = 0; page < 3; page++) {
            Scenes.fetch(x, 0, page);
        }
        return x;
    }

    private static void way4GreatestAge() {
        String name = "Promise 7, way 4, 'the frame with the greatest age that it holds': ";
        AlmsKernel x = threePages();
        Checks.due(name + "the first", x.touch(0, 3), 0);
        AlmsKernel y = threePages();
        y.touch(0, 0);
        Checks.due(name + "the second", y.touch(0, 3), 1);
        AlmsKernel z = threePages();
        z.touch(0, 0);
        z.touch(0, 1);
        Checks.due(name + "the last", z.touch(0, 3), 2);
        String several = "Promise 7, way 4, 'of several the lowest': ";
        AlmsKernel same = threePages();
        same.touch(0, 2);
        same.touch(0, 1);
        same.touch(0, 0);
        Checks.due(several + "three of the age 0", same.touch(0, 3), 0);
        AlmsKernel two = threePages();
        two.touch(0, 2);
        two.touch(0, 1);
        two.advance(1);
        two.touch(0, 0);
        Checks.due(several + "the last two", two.touch(0, 3), 1);
        AlmsKernel young = Scenes.ownPage(1);
        young.touch(0, 0);
        Checks.due("Promise 7, way 4, 'of those with a page that is there': the age 0 is enough", young.touch(0, 1), 0);

        AlmsKernel lent = Scenes.withFrames(0, 4);
        lent.setRate(0);
        Scenes.fetch(lent, 1, 0);
        Scenes.fetch(lent, 1, 1);
        Scenes.fetch(lent, 1, 2);
        Scenes.fetch(lent, 0, 0);
        lent.touch(1, 0);
        Checks.due(name + "a borrowed one, and not that of another", lent.touch(1, 3), 1);
        Checks.due(name + "the loan lasts", lent.lasts(1));
    }

    private static void ifNoWayIsPossible() {
        String name = "Promise 7, 'If no way is possible, the touch is refused': ";
        Checks.refused(Checks.STATE, name + "no frame is owned", AlmsKernel::new, x -> x.touch(0, 0));
        Checks.refused(Checks.STATE, name + "all that it owns is lent, and coming", () -> lent(0), x -> x.touch(0, 0));
        Checks.refused(Checks.STATE, name + "all that others own is lent", () -> lent(8), x -> x.touch(2, 0));
        AlmsKernel x = new AlmsKernel();
        x.buy(4);
        Checks.due(name + "one is", x.touch(0, 0), 0);
        AlmsKernel y = new AlmsKernel();
        Checks.refused(y, Checks.STATE, name + "and refused again", () -> y.touch(0, 0));
        Checks.due(name + "it is no fault", y.faults(0), 0);
        Checks.due(name + "it is AWAKE still", y.stateOf(0), AlmsKernel.AWAKE);
    }

    private static void thereCanBe60Loans() {
        String name = "Promise 7, 'it would borrow, and there were 60 loans': ";
        AlmsKernel x = Scenes.afterLoans(59);
        Checks.due(name + "there were 59", x.touch(1, 0), 0);
        Checks.due("Promise 23, 'the number of loans that there were': 60", x.loans(), 60);
        Checks.due("Promise 24: the loan 59 lasts", x.lasts(59));
        x.setRate(1);
        x.advance(1);
        Checks.due("Promise 26: the loan 59 costs the rate", x.interest(59), 1);
        Checks.purses("Promise 26: the loan 59", x, 13, 19);
        Scenes.untilAwake(x, 1);
        Checks.due("Promise 7, way 2: the loan 59 is called in", x.touch(0, 0), 0);
        Checks.dueNot("Promise 24: the loan 59 has ended", x.lasts(59));
        Checks.refused(Checks.STATE, name + "there were 60", () -> Scenes.afterLoans(60), y -> y.touch(1, 0));
        Checks.refused(Checks.STATE, name + "way 4 would be possible", TouchBoundariesTest::sixtyAndAPage,
            y -> y.touch(1, 1));
        Checks.due("Promise 23: still 60", Scenes.afterLoans(60).loans(), 60);
        AlmsKernel sleeps = Scenes.afterLoans(59);
        sleeps.touch(1, 7);
        for (int process = 2; process < 5; process++) {
            sleeps.buy(process);
        }
        sleeps.setRate(9);
        sleeps.advance(3);
        Checks.due("Promise 20: for the loan 59 it cannot pay", sleeps.stateOf(1), AlmsKernel.ASLEEP);
        Checks.dueNot("Promise 24: put to sleep, the loan 59 ends", sleeps.lasts(59));
    }

    /** There were 60 loans; process 0 has the empty frame 0, and process 1 the frame 1 with its page 0. */
    private static AlmsKernel sixtyAndAPage() {
        AlmsKernel x = Scenes.afterLoans(60);
        x.buy(1);
        Scenes.fetch(x, 1, 0);
        return x;
    }

    private static void otherWaysAt60Loans() {
        String name = "Promise 7, 'it would borrow', with 60 loans it would not: ";
        AlmsKernel x = sixtyAndAPage();
        Checks.due(name + "a page that it has", x.touch(1, 0), AlmsKernel.NONE);
        x.drop(1);
        Checks.due(name + "way 1", x.touch(1, 2), 1);
        AlmsKernel young = sixtyAndAPage();
        Scenes.fetch(young, 0, 0);
        Checks.due(name + "way 4, as the other page is too young", young.touch(1, 2), 1);
        AlmsKernel poor = sixtyAndAPage();
        Scenes.bringPurse(poor, 1, 8);
        poor.setRate(9);
        Checks.due(name + "way 4, as its purse is less than the rate", poor.touch(1, 2), 1);
        AlmsKernel none = Scenes.afterLoans(60);
        none.sell(0);
        Checks.refused(none, Checks.STATE, name + "no way", () -> none.touch(1, 0));
        AlmsKernel lent = Scenes.afterLoans(59);
        Scenes.fetch(lent, 1, 0);
        Checks.due(name + "way 2", lent.touch(0, 0), 0);
    }

    private static void whatPageTheFrameHadIsDropped() {
        String name = "Promise 7, 'What page the frame had is dropped; the touched page is coming in it': ";
        AlmsKernel x = Scenes.ownPage(5);
        Checks.due(name + "by way 4", x.touch(0, 7), 0);
        Checks.due(name + "pageIn", x.pageIn(0), 7);
        Checks.due(name + "age", x.age(0), AlmsKernel.NONE);
        Checks.due(name + "requests", x.requests(), 1);
        Checks.due(name + "WAITING", x.stateOf(0), AlmsKernel.WAITING);
        Scenes.untilAwake(x, 0);
        Checks.due(name + "the page 0 is a fault again", x.touch(0, 0), 0);
        AlmsKernel y = Scenes.ownPage(5);
        y.setRate(0);
        Checks.due(name + "by way 3", y.touch(1, 0), 0);
        Checks.due(name + "its track", y.requestAt(0), 8);
        Scenes.untilAwake(y, 1);
        Checks.due(name + "the lender's page is a fault", y.touch(0, 0), 0);
        Scenes.untilAwake(y, 0);
        y.advance(5);
        Checks.due(name + "the borrower's page, called in, is a fault", y.touch(1, 0), 0);
    }

    private static void payBackLastsOrNot() {
        String name = "Promise 8, 'if it does not last': ";
        AlmsKernel x = lent(8);
        Checks.due(name + "it does", x.payBack(0), 0);
        Checks.refused(x, Checks.STATE, name + "paid back already", () -> x.payBack(0));
        x.touch(2, 0);
        Scenes.untilAwake(x, 2);
        Checks.refused(x, Checks.STATE, name + "the frame is lent to another now", () -> x.payBack(0));
        Checks.due(name + "the other loan does", x.payBack(1), 0);
        AlmsKernel calledIn = lent(8);
        Scenes.fetch(calledIn, 0, 0);
        Checks.refused(calledIn, Checks.STATE, name + "called in", () -> calledIn.payBack(0));
        Checks.refused(Checks.STATE, name + "its borrower was put to sleep", Scenes::oneAsleep, y -> y.payBack(0));
        Checks.refused(Checks.STATE, name + "among much else", Scenes::busy, y -> y.payBack(0));
    }

    private static void payBackComing() {
        String name = "Promise 8, 'the page of the frame is coming': ";
        Checks.refused(Checks.STATE, name + "it is", () -> lent(0), x -> x.payBack(0));
        Checks.refused(Checks.STATE, name + "for one tick still", () -> lent(7), x -> x.payBack(0));
        AlmsKernel there = lent(8);
        Checks.due(name + "it is there", there.payBack(0), 0);
        Checks.due("Promise 8, 'then the frame is empty'", there.pageIn(0), AlmsKernel.NONE);
        Checks.due("Promise 8, 'and held by its owner'", there.holder(0), 0);
        AlmsKernel empty = lent(8);
        empty.drop(0);
        Checks.due(name + "it was dropped", empty.payBack(0), 0);
        AlmsKernel again = lent(8);
        again.touch(1, 1);
        Checks.due("scene: no other way", again.pageIn(0), 1);
        Checks.refused(again, Checks.STATE, name + "another than at first", () -> again.payBack(0));
        AlmsKernel other = lent(8);
        other.buy(1);
        other.touch(1, 1);
        Checks.due(name + "in another frame of the borrower", other.payBack(0), 0);
        Checks.due("Promise 8: it waits on", other.stateOf(1), AlmsKernel.WAITING);
        AlmsKernel lender = Scenes.withFrames(0, 2);
        lender.setRate(0);
        Scenes.fetch(lender, 1, 0);
        lender.touch(0, 7);
        Checks.due(name + "in another frame of the lender", lender.payBack(0), 0);
    }

    private static void promise22Faults() {
        String name = "Promise 22, 'how many faults a process has had': ";
        AlmsKernel x = Scenes.withFrames(0, 1);
        Checks.due(name + "none", x.faults(0), 0);
        x.touch(0, 0);
        Checks.due(name + "as it begins", x.faults(0), 1);
        x.advance(1);
        Checks.due(name + "as it is done", x.faults(0), 1);
        x.touch(0, 0);
        Checks.due(name + "a hit is none", x.faults(0), 1);
        x.touch(0, 7);
        Checks.due(name + "two", x.faults(0), 2);
        Checks.due(name + "of another", x.faults(1), 0);
        String dropped = "Promise 22, 'those whose pages were dropped as they came too': ";
        AlmsKernel y = Scenes.withFrames(0, 1);
        y.touch(4, 7);
        y.setRate(9);
        y.advance(3);
        Checks.due(dropped + "it is dropped", y.requests(), 0);
        Checks.due(dropped + "it counts", y.faults(4), 1);
    }

    private static void promise25Parties() {
        String name = "Promise 25, '100 times the frame, 10 times the lender, and the borrower, added': ";
        AlmsKernel low = new AlmsKernel();
        low.buy(0);
        low.touch(1, 0);
        Checks.due(name + "the lowest", low.partiesOf(0), 1);
        AlmsKernel x = Scenes.withFrames(2, 11);
        x.buy(4);
        x.setWage(4, 9);
        x.advance(20);
        Checks.due("scene: the loan", x.touch(3, 0), 11);
        Checks.due(name + "the highest", x.partiesOf(0), 1143);
    }
}
