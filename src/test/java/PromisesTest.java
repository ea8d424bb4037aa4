/** For each promise of the document its ordinary calls, its edges and its wrong arguments, by hand. */
public final class PromisesTest {
    private static final Class<IndexOutOfBoundsException> INDEX = Checks.INDEX;
    private static final Class<IllegalArgumentException> ARGUMENT = Checks.ARGUMENT;
    private static final Class<IllegalStateException> STATE = Checks.STATE;
    private static final int[] NO_PROCESS = {-1, 5, Integer.MIN_VALUE, Integer.MAX_VALUE};
    private static final int[] NO_FRAME = {-1, 12, Integer.MIN_VALUE, Integer.MAX_VALUE};

    private PromisesTest() {
    }

    public static void main(String[] args) {
        newObject();
        constants();
        setWage();
        setRate();
        buy();
        sell();
        drop();
        touchHits();
        touchOwnEmptyFrames();
        touchCallsIn();
        touchBorrows();
        touchBorrowsOfWhom();
        touchBorrowsAtMostThree();
        touchTakesTheOldest();
        touchWrong();
        touchAtSixtyLoans();
        payBack();
        advance();
        tick();
        ownerAndHolders();
        pageInAndAge();
        freeAndOwns();
        borrowedAndLent();
        stateOfAndPurse();
        faults();
        loansAndInterest();
        sleepAndAlms();
        sleepDropsWhatComes();
        wakingOrder();
        diskOrder();
        diskTies();
        diskChoiceStays();
        requests();
        Checks.end();
    }

    private static void newObject() {
        AlmsKernel x = new AlmsKernel();
        Checks.due("1: tick()", x.tick(), 0);
        Checks.due("1: free()", x.free(), 12);
        Checks.due("1: head()", x.head(), 0);
        Checks.due("1: loans()", x.loans(), 0);
        Checks.due("1: requests()", x.requests(), 0);
        Checks.purses("1", x, 20, 20, 20, 20, 20);
        for (int process = 0; process < 5; process++) {
            Checks.due("1: stateOf", x.stateOf(process), AlmsKernel.AWAKE);
            Checks.due("1: the wage", x.setWage(process, 0), 0);
            Checks.due("1: faults", x.faults(process), 0);
            Checks.due("1: owns", x.owns(process), 0);
        }
        for (int frame = 0; frame < 12; frame++) {
            Checks.due("1: owner", x.owner(frame), -1);
            Checks.due("1: holder", x.holder(frame), -1);
            Checks.due("1: pageIn", x.pageIn(frame), -1);
            Checks.due("1: age", x.age(frame), -1);
        }
        Checks.due("1: the rate", x.setRate(0), 1);
        x.buy(0);
        Checks.due("1: another object is free", new AlmsKernel().free(), 12);
    }

    private static void constants() {
        Checks.due("NONE", AlmsKernel.NONE, -1);
        Checks.due("AWAKE", AlmsKernel.AWAKE, 0);
        Checks.due("WAITING", AlmsKernel.WAITING, 1);
        Checks.due("ASLEEP", AlmsKernel.ASLEEP, 2);
    }

    private static void setWage() {
        AlmsKernel x = new AlmsKernel();
        Checks.due("2: setWage(4, 9)", x.setWage(4, 9), 0);
        Checks.due("2: setWage(4, 3)", x.setWage(4, 3), 9);
        Checks.due("2: setWage(0, 1)", x.setWage(0, 1), 0);
        x.advance(2);
        Checks.purses("2", x, 22, 20, 20, 20, 26);
        for (int process : NO_PROCESS) {
            Checks.refused(x, INDEX, "2: setWage(" + process + ", 1)", () -> x.setWage(process, 1));
            Checks.refused(x, INDEX, "2: setWage(" + process + ", 10)", () -> x.setWage(process, 10));
        }
        for (int wage : new int[] {-1, 10, Integer.MIN_VALUE, Integer.MAX_VALUE}) {
            Checks.refused(x, ARGUMENT, "2: setWage(0, " + wage + ")", () -> x.setWage(0, wage));
        }
        Checks.due("2: the wage after refusals", x.setWage(0, 0), 1);
    }

    private static void setRate() {
        AlmsKernel x = Scenes.withFrames(0, 1);
        Checks.due("3: setRate(9)", x.setRate(9), 1);
        Checks.due("3: setRate(0)", x.setRate(0), 9);
        x.touch(1, 0);
        x.advance(3);
        Checks.purses("3: a rate of 0", x, 12, 20);
        x.setRate(4);
        x.advance(2);
        Checks.purses("3: a loan costs the rate of its tick", x, 20, 12);
        for (int rate : new int[] {-1, 10, Integer.MIN_VALUE, Integer.MAX_VALUE}) {
            Checks.refused(x, ARGUMENT, "3: setRate(" + rate + ")", () -> x.setRate(rate));
        }
        Checks.due("3: the rate after refusals", x.setRate(0), 4);
    }

    private static void buy() {
        AlmsKernel x = new AlmsKernel();
        Checks.due("4: buy(1)", x.buy(1), 0);
        Checks.due("4: purse(1)", x.purse(1), 12);
        Checks.due("4: buy(2)", x.buy(2), 1);
        Checks.due("4: buy(1)", x.buy(1), 2);
        Checks.refused(x, STATE, "4: buy(1) with a purse of 4", () -> x.buy(1));
        x.sell(0);
        Checks.due("4: buy(1) with a purse of 8", x.buy(1), 0);
        Checks.due("4: purse(1)", x.purse(1), 0);
        Checks.due("4: the frame is empty", x.pageIn(0), -1);
        x.touch(2, 0);
        Checks.due("4: buy while waiting", x.buy(2), 3);
        for (int process : NO_PROCESS) {
            Checks.refused(x, INDEX, "4: buy(" + process + ")", () -> x.buy(process));
        }
        AlmsKernel poor = new AlmsKernel();
        poor.setWage(0, 9);
        poor.buy(0);
        poor.advance(100);
        for (int frame = 1; frame < 12; frame++) {
            Checks.due("4: the lowest free frame", poor.buy(0), frame);
        }
        Checks.refused(poor, STATE, "4: buy(0) when no frame is free", () -> poor.buy(0));

        AlmsKernel asleep = Scenes.oneAsleep();
        Checks.refused(asleep, STATE, "4: buy of a sleeper", () -> asleep.buy(0));
    }

    private static void sell() {
        AlmsKernel x = Scenes.withFrames(0, 2);
        Checks.due("5: sell(1)", x.sell(1), 8);
        Checks.due("5: owner(1)", x.owner(1), -1);
        Checks.due("5: holder(1)", x.holder(1), -1);
        Checks.due("5: holderByLog(1)", x.holderByLog(1), -1);
        Checks.due("5: free()", x.free(), 11);
        Checks.refused(x, STATE, "5: sell of a free frame", () -> x.sell(1));
        x.touch(0, 0);
        Checks.refused(x, STATE, "5: sell while the page is coming", () -> x.sell(0));
        x.advance(1);
        Checks.refused(x, STATE, "5: sell while the page is there", () -> x.sell(0));
        x.drop(0);
        Checks.due("5: sell(0)", x.sell(0), 12);
        x.buy(0);
        x.touch(0, 0);
        Checks.due("5: another frame", x.buy(1), 1);
        Checks.due("5: sell while another waits", x.sell(1), 16);
        for (int frame : NO_FRAME) {
            Checks.refused(x, INDEX, "5: sell(" + frame + ")", () -> x.sell(frame));
        }
        AlmsKernel waiting = Scenes.withFrames(0, 2);
        waiting.touch(0, 5);
        Checks.due("5: sell of one that waits", waiting.sell(1), 8);

        AlmsKernel lent = Scenes.withFrames(0, 1);
        lent.touch(1, 0);
        lent.advance(8);
        lent.drop(0);
        Checks.due("5: lent and empty", lent.pageIn(0), -1);
        Checks.refused(lent, STATE, "5: sell of a lent frame", () -> lent.sell(0));

        AlmsKernel asleep = Scenes.oneAsleep();
        Checks.due("5: drop of a sleeper", asleep.drop(0), 0);
        Checks.refused(asleep, STATE, "5: sell of a sleeper", () -> asleep.sell(0));
        asleep.advance(1);
        Checks.due("5: sell when it is awake again", asleep.sell(0), 9);
    }

    private static void drop() {
        AlmsKernel x = Scenes.withFrames(0, 1);
        Checks.refused(x, STATE, "6: drop of a free frame", () -> x.drop(1));
        Checks.refused(x, STATE, "6: drop of an empty frame", () -> x.drop(0));
        x.touch(0, 2);
        Checks.refused(x, STATE, "6: drop while it is coming", () -> x.drop(0));
        x.advance(2);
        Checks.due("6: drop(0)", x.drop(0), 2);
        Checks.due("6: pageIn(0)", x.pageIn(0), -1);
        Checks.due("6: age(0)", x.age(0), -1);
        Checks.due("6: holder(0)", x.holder(0), 0);
        Checks.refused(x, STATE, "6: drop again", () -> x.drop(0));
        x.touch(1, 6);
        x.advance(12);
        Checks.due("6: drop in a lent frame", x.drop(0), 6);
        Checks.due("6: the loan lasts", x.lasts(0));
        Checks.due("6: its holder", x.holder(0), 1);
        for (int frame : NO_FRAME) {
            Checks.refused(x, INDEX, "6: drop(" + frame + ")", () -> x.drop(frame));
        }
    }

    private static void touchHits() {
        AlmsKernel x = Scenes.withFrames(0, 2);
        Checks.due("7: touch(0, 3)", x.touch(0, 3), 0);
        Checks.refused(x, STATE, "7: touch while waiting", () -> x.touch(0, 3));
        x.advance(4);
        Checks.due("7: age before the touch", x.age(0), 2);
        Checks.due("7: a page that is there", x.touch(0, 3), -1);
        Checks.due("7: age after the touch", x.age(0), 0);
        Checks.due("7: no fault", x.faults(0), 1);
        Checks.due("7: still awake", x.stateOf(0), 0);
        x.advance(1);
        Checks.due("7: age a tick later", x.age(0), 1);
        x.touch(1, 3);
        Checks.due("7: the same page of another", x.holder(1), 1);
        x.advance(30);
        Checks.due("7: each has its own", x.touch(0, 3), -1);
    }

    private static void touchOwnEmptyFrames() {
        AlmsKernel x = Scenes.withFrames(0, 4);
        Checks.due("7: the lowest empty", x.touch(0, 7), 0);
        x.advance(7);
        Checks.due("7: the next", x.touch(0, 6), 1);
        x.advance(7);
        x.drop(0);
        Checks.due("7: the lowest again", x.touch(0, 0), 0);
        Checks.due("7: coming", x.pageIn(0), 0);
        Checks.due("7: it waits", x.stateOf(0), 1);
        Checks.due("7: it has no age", x.age(0), -1);

        // A borrowed empty frame is one that it holds, too; a lent one is not.
        AlmsKernel y = Scenes.withFrames(0, 1);
        y.setRate(0);
        y.touch(1, 0);
        y.advance(8);
        y.drop(0);
        Checks.due("7: an empty borrowed frame", y.touch(1, 1), 0);
        Checks.due("7: no second loan", y.loans(), 1);
        y.advance(1);
        y.drop(0);
        Checks.due("7: an empty lent frame is called in", y.touch(0, 1), 0);
        Checks.due("7: that loan ended", y.lasts(0) ? 1 : 0, 0);
    }

    private static void touchCallsIn() {
        AlmsKernel x = Scenes.withFrames(0, 3);
        x.setRate(0);
        x.touch(1, 0);
        x.touch(2, 0);
        x.touch(3, 0);
        Checks.refused(x, STATE, "7: no way while all that is lent is coming", () -> x.touch(0, 0));
        x.advance(8);
        x.advance(8);
        Checks.due("7: call in the loan with the lowest number", x.touch(0, 0), 0);
        Checks.due("7: loan 0 ended", x.lasts(0) ? 1 : 0, 0);
        Checks.due("7: loan 1 lasts", x.lasts(1));
        Checks.due("7: holder(0)", x.holder(0), 0);
        Checks.due("7: the page is its own", x.pageIn(0), 0);
        Checks.due("7: borrowed(1)", x.borrowed(1), 0);
        Checks.due("7: lent(0)", x.lent(0), 2);

        // The loan with the lowest number is passed over while its page is coming.
        AlmsKernel y = Scenes.withFrames(0, 2);
        y.setRate(0);
        y.touch(1, 7);
        y.touch(2, 0);
        y.advance(15);
        y.touch(1, 6);
        Checks.due("7: loan 0 is used again", y.pageIn(0), 6);
        Checks.due("7: loans()", y.loans(), 2);
        y.advance(10);
        Checks.due("7: page 6 is there", y.age(0) >= 0);
        y.touch(1, 1);
        Checks.due("7: coming in frame 0", y.pageIn(0), 1);
        Checks.due("7: call in of frame 1", y.touch(0, 0), 1);
        Checks.due("7: loan 0 lasts", y.lasts(0));
        Checks.due("7: loan 1 ended", y.lasts(1) ? 1 : 0, 0);
        Checks.due("7: nothing borrowed", y.loans(), 2);

        // Calling in goes before borrowing.
        AlmsKernel z = Scenes.withFrames(0, 1);
        z.setRate(0);
        z.touch(1, 0);
        z.advance(8);
        z.buy(2);
        Checks.due("7: its own before another's", z.touch(0, 0), 0);
        Checks.due("7: loans()", z.loans(), 1);
    }

    private static void touchBorrows() {
        AlmsKernel x = Scenes.withFrames(0, 3);
        x.setRate(0);
        x.touch(0, 0);
        x.advance(10);
        Checks.due("7: an empty frame before an old page", x.touch(1, 0), 1);
        Checks.due("7: the lowest empty", x.touch(2, 0), 2);
        Checks.due("7: then the old page", x.touch(3, 0), 0);
        Checks.due("7: its page is dropped", x.pageIn(0), 0);
        Checks.due("7: and another's is coming", x.age(0), -1);
        Checks.due("7: partiesOf(0)", x.partiesOf(0), 101);
        Checks.due("7: partiesOf(2)", x.partiesOf(2), 3);
        Checks.refused(x, STATE, "7: no frame is left", () -> x.touch(4, 0));

        AlmsKernel young = Scenes.withFrames(0, 1);
        young.touch(0, 0);
        Checks.refused(young, STATE, "7: a page that is coming is not lent", () -> young.touch(1, 0));
        young.advance(5);
        Checks.due("7: the age 5", young.age(0), 5);
        young.touch(0, 0);
        young.advance(4);
        Checks.due("7: the age 4", young.age(0), 4);
        Checks.refused(young, STATE, "7: the age 4 is too young", () -> young.touch(1, 0));
        young.advance(1);
        Checks.due("7: the age 5 is old enough", young.touch(1, 0), 0);

        // Of the old pages the oldest, of several the lowest.
        AlmsKernel old = Scenes.withFrames(0, 3);
        old.setRate(0);
        old.touch(0, 0);
        old.advance(1);
        old.touch(0, 1);
        old.advance(1);
        old.touch(0, 2);
        old.advance(6);
        old.touch(0, 0);
        old.advance(5);
        Checks.due("7: the greatest age", old.touch(1, 0), 1);
        old.advance(6);
        old.touch(0, 2);
        Checks.due("7: the same ages", old.touch(0, 0), -1);
        old.advance(5);
        Checks.due("7: age(0)", old.age(0), old.age(2));
        Checks.due("7: of several the lowest", old.touch(2, 0), 0);
    }

    private static void touchBorrowsOfWhom() {
        AlmsKernel x = new AlmsKernel();
        x.buy(3);
        x.buy(2);
        Checks.due("7: of equal purses the lowest", x.touch(1, 0), 1);
        Checks.due("7: its lender", x.partiesOf(0), 121);
        Checks.due("7: then the other", x.touch(4, 0), 0);

        AlmsKernel y = new AlmsKernel();
        y.buy(2);
        y.buy(3);
        y.setWage(3, 1);
        y.setWage(4, 9);
        y.advance(1);
        Checks.due("7: the greatest purse that can lend", y.touch(1, 0), 1);
        Checks.due("7: partiesOf(0)", y.partiesOf(0), 131);
        // Process 3 has nothing left to lend now.
        Checks.due("7: one that can lend", y.touch(0, 0), 0);

        AlmsKernel penniless = Scenes.withFrames(0, 2);
        penniless.sell(1);
        penniless.buy(0);
        Checks.due("7: a lender's purse of 0", penniless.purse(0), 0);
        Checks.due("7: it lends", penniless.touch(1, 0), 0);

        // A sleeper that owns and holds a frame lends it.
        AlmsKernel z = Scenes.oneAsleep();
        z.drop(0);
        z.setRate(2);
        Checks.due("7: purse(1) is the greatest with a frame", z.touch(2, 0), 1);
        Checks.due("7: a sleeper lends", z.touch(3, 0), 0);
        Checks.due("7: partiesOf(2)", z.partiesOf(2), 3);

        // The purse has to be the rate or more.
        AlmsKernel poor = Scenes.withFrames(0, 1);
        poor.buy(1);
        poor.touch(1, 0);
        poor.buy(2);
        poor.touch(2, 0);
        poor.buy(2);
        Checks.due("7: purse(2)", poor.purse(2), 4);
        poor.advance(30);
        poor.touch(2, 1);
        poor.advance(30);
        poor.setRate(5);
        Checks.due("7: too poor for a loan, so its own", poor.touch(2, 2), 2);
        poor.advance(30);
        poor.setRate(4);
        Checks.due("7: rich enough at the rate of its purse", poor.touch(2, 3), 0);
        Checks.due("7: loans()", poor.loans(), 1);
    }

    private static void touchBorrowsAtMostThree() {
        AlmsKernel x = Scenes.withFrames(0, 4);
        x.setRate(0);
        for (int page = 0; page < 3; page++) {
            Checks.due("7: loan " + page, x.touch(1, page), page);
            x.advance(10);
        }
        Checks.due("7: borrowed(1)", x.borrowed(1), 3);
        Checks.due("7: not a fourth loan, but the oldest frame", x.touch(1, 3), 0);
        Checks.due("7: loans()", x.loans(), 3);
        x.advance(10);
        x.payBack(1);
        Checks.due("7: fewer than 3 again", x.touch(1, 4), 1);
        Checks.due("7: loans()", x.loans(), 4);
        x.advance(10);
        Checks.due("7: others may borrow", x.touch(2, 0), 3);
    }

    private static void touchTakesTheOldest() {
        AlmsKernel x = Scenes.withFrames(0, 3);
        x.touch(0, 0);
        x.advance(1);
        x.touch(0, 1);
        x.advance(1);
        x.touch(0, 2);
        x.advance(1);
        x.touch(0, 0);
        Checks.due("7: its oldest frame", x.touch(0, 3), 1);
        Checks.due("7: the new page", x.pageIn(1), 3);
        x.advance(5);
        x.touch(0, 2);
        x.touch(0, 3);
        x.touch(0, 0);
        Checks.due("7: of the same age the lowest", x.touch(0, 5), 0);

        // A process does not borrow of itself.
        for (int process = 0; process < 5; process++) {
            AlmsKernel self = Scenes.withFrames(process, 1);
            self.touch(process, 0);
            self.advance(50);
            Checks.due("7: its own old page", self.touch(process, 1), 0);
            Checks.due("7: no loan", self.loans(), 0);
        }

        AlmsKernel none = new AlmsKernel();
        Checks.refused(none, STATE, "7: no way at all", () -> none.touch(0, 0));
        Checks.due("7: a refused touch is no fault", none.faults(0), 0);
    }

    private static void touchWrong() {
        AlmsKernel x = Scenes.withFrames(0, 1);
        x.touch(0, 0);
        for (int process : NO_PROCESS) {
            Checks.refused(x, INDEX, "7: touch(" + process + ", 0)", () -> x.touch(process, 0));
        }
        for (int page : new int[] {-1, 8, Integer.MIN_VALUE, Integer.MAX_VALUE}) {
            Checks.refused(x, INDEX, "7: touch(0, " + page + ") while it waits", () -> x.touch(0, page));
            Checks.refused(x, INDEX, "7: touch(1, " + page + ")", () -> x.touch(1, page));
        }
        AlmsKernel asleep = Scenes.oneAsleep();
        Checks.refused(asleep, STATE, "7: touch of a sleeper, of a page that is there", () -> asleep.touch(0, 0));
        Checks.refused(asleep, STATE, "7: touch of a sleeper", () -> asleep.touch(0, 1));
    }

    private static void touchAtSixtyLoans() {
        AlmsKernel x = Scenes.withFrames(0, 1);
        x.setRate(0);
        x.buy(1);
        x.touch(1, 0);
        x.advance(8);
        x.touch(1, 0);
        for (int loan = 0; loan < 60; loan++) {
            Checks.due("7: the frame of loan " + loan, x.touch(1, 1 + loan % 2), 0);
            x.advance(10);
            if (loan < 59) {
                x.payBack(loan);
            }
            x.touch(1, 0);
        }
        Checks.due("7: loans()", x.loans(), 60);
        Checks.due("7: a hit still goes", x.touch(1, 0), -1);
        Checks.due("7: nothing to borrow, so the fourth way goes", x.touch(1, 5), 0);
        x.advance(10);
        x.touch(1, 0);
        x.payBack(59);
        Checks.refused(x, STATE, "7: a loan above 60, not the fourth way", () -> x.touch(1, 6));
        x.touch(0, 0);
        Checks.due("7: the lender may use it", x.pageIn(0), 0);
        Checks.due("7: then the fourth way goes again", x.touch(1, 6), 1);
        Checks.due("7: loans()", x.loans(), 60);
    }

    private static void payBack() {
        AlmsKernel x = Scenes.withFrames(3, 2);
        Checks.refused(x, INDEX, "8: payBack(0) before any loan", () -> x.payBack(0));
        x.setRate(0);
        x.touch(1, 0);
        Checks.refused(x, STATE, "8: while the page is coming", () -> x.payBack(0));
        x.advance(8);
        x.touch(1, 1);
        Checks.due("8: payBack(0) while another page is coming", x.payBack(0), 3);
        Checks.due("8: it waits still", x.stateOf(1), 1);
        Checks.due("8: it has ended", x.lasts(0) ? 1 : 0, 0);
        Checks.due("8: the frame is empty", x.pageIn(0), -1);
        Checks.due("8: no age", x.age(0), -1);
        Checks.due("8: held by its owner", x.holder(0), 3);
        Checks.due("8: by the log too", x.holderByLog(0), 3);
        Checks.refused(x, STATE, "8: payBack(0) again", () -> x.payBack(0));
        for (int loan : new int[] {-1, 2, 59, 60, Integer.MIN_VALUE, Integer.MAX_VALUE}) {
            Checks.refused(x, INDEX, "8: payBack(" + loan + ")", () -> x.payBack(loan));
        }
        x.advance(2);
        x.drop(1);
        Checks.due("8: payBack of an empty frame", x.payBack(1), 3);
    }

    private static void advance() {
        AlmsKernel x = new AlmsKernel();
        Checks.due("9: advance(1)", x.advance(1), 1);
        Checks.due("9: advance(200)", x.advance(200), 201);
        for (int ticks : new int[] {0, -1, 201, Integer.MIN_VALUE, Integer.MAX_VALUE}) {
            Checks.refused(x, ARGUMENT, "9: advance(" + ticks + ")", () -> x.advance(ticks));
        }
        for (int i = 0; i < 248; i++) {
            x.advance(200);
        }
        Checks.due("9: advance(198)", x.advance(198), 49999);
        Checks.refused(x, STATE, "9: above 50000", () -> x.advance(2));
        Checks.refused(x, STATE, "9: far above 50000", () -> x.advance(200));
        Checks.due("9: to 50000", x.advance(1), 50000);
        Checks.refused(x, STATE, "9: beyond 50000", () -> x.advance(1));
        Checks.refused(x, ARGUMENT, "9: out of range first", () -> x.advance(201));
    }

    private static void tick() {
        AlmsKernel x = new AlmsKernel();
        x.advance(7);
        Checks.due("10: tick()", x.tick(), 7);
        x.advance(5);
        Checks.due("10: tick()", x.tick(), 12);
    }

    private static void ownerAndHolders() {
        AlmsKernel x = Scenes.withFrames(2, 2);
        x.touch(4, 1);
        Checks.due("11: owner(0)", x.owner(0), 2);
        Checks.due("12: holder(0)", x.holder(0), 4);
        Checks.due("13: holderByLog(0)", x.holderByLog(0), 4);
        Checks.due("11: owner(1)", x.owner(1), 2);
        Checks.due("12: holder(1)", x.holder(1), 2);
        Checks.due("13: holderByLog(1)", x.holderByLog(1), 2);
        Checks.due("11: owner(11)", x.owner(11), -1);
        Checks.due("12: holder(11)", x.holder(11), -1);
        Checks.due("13: holderByLog(11)", x.holderByLog(11), -1);
        x.setRate(0);
        x.advance(40);
        x.payBack(0);
        x.touch(3, 0);
        Checks.due("11: owner(0) of a second loan", x.owner(0), 2);
        Checks.due("12: holder(0) of a second loan", x.holder(0), 3);
        Checks.due("13: holderByLog(0) of a second loan", x.holderByLog(0), 3);
        for (int frame : NO_FRAME) {
            Checks.refused(x, INDEX, "11: owner(" + frame + ")", () -> x.owner(frame));
            Checks.refused(x, INDEX, "12: holder(" + frame + ")", () -> x.holder(frame));
            Checks.refused(x, INDEX, "13: holderByLog(" + frame + ")", () -> x.holderByLog(frame));
        }
    }

    private static void pageInAndAge() {
        AlmsKernel x = Scenes.withFrames(0, 2);
        x.advance(3);
        x.touch(0, 4);
        Checks.due("14: coming", x.pageIn(0), 4);
        Checks.due("15: coming", x.age(0), -1);
        x.advance(3);
        Checks.due("14: still coming", x.pageIn(0), 4);
        Checks.due("15: still coming", x.age(0), -1);
        x.advance(1);
        Checks.due("14: there", x.pageIn(0), 4);
        Checks.due("15: it came at the tick that has passed", x.age(0), 1);
        x.advance(200);
        Checks.due("15: a great age", x.age(0), 201);
        Checks.due("14: empty", x.pageIn(1), -1);
        Checks.due("15: empty", x.age(1), -1);
        Checks.due("14: free", x.pageIn(2), -1);
        Checks.due("15: free", x.age(2), -1);
        x.touch(0, 0);
        x.advance(4);
        Checks.due("14: the page 0 is a page", x.pageIn(1), 0);
        for (int frame : NO_FRAME) {
            Checks.refused(x, INDEX, "14: pageIn(" + frame + ")", () -> x.pageIn(frame));
            Checks.refused(x, INDEX, "15: age(" + frame + ")", () -> x.age(frame));
        }
    }

    private static void freeAndOwns() {
        AlmsKernel x = Scenes.withFrames(1, 5);
        x.buy(0);
        Checks.due("16: free()", x.free(), 6);
        Checks.due("17: owns(1)", x.owns(1), 5);
        Checks.due("17: owns(0)", x.owns(0), 1);
        Checks.due("17: owns(4)", x.owns(4), 0);
        x.touch(3, 0);
        Checks.due("16: a lent frame is not free", x.free(), 6);
        Checks.due("17: a lent frame is owned", x.owns(1), 5);
        Checks.due("17: a borrowed frame is not", x.owns(3), 0);
        x.sell(4);
        Checks.due("16: free() after a sale", x.free(), 7);
        Checks.due("17: owns(1) after a sale", x.owns(1), 4);
        for (int process : NO_PROCESS) {
            Checks.refused(x, INDEX, "17: owns(" + process + ")", () -> x.owns(process));
        }
    }

    private static void borrowedAndLent() {
        AlmsKernel x = Scenes.withFrames(1, 4);
        x.setRate(0);
        x.touch(0, 0);
        x.touch(2, 0);
        x.advance(30);
        x.touch(0, 1);
        Checks.due("18: borrowed(0)", x.borrowed(0), 2);
        Checks.due("18: borrowed(2)", x.borrowed(2), 1);
        Checks.due("18: borrowed(1)", x.borrowed(1), 0);
        Checks.due("19: lent(1)", x.lent(1), 3);
        Checks.due("19: lent(0)", x.lent(0), 0);
        x.payBack(0);
        Checks.due("18: borrowed(0) now", x.borrowed(0), 1);
        Checks.due("19: lent(1) now", x.lent(1), 2);
        for (int process : NO_PROCESS) {
            Checks.refused(x, INDEX, "18: borrowed(" + process + ")", () -> x.borrowed(process));
            Checks.refused(x, INDEX, "19: lent(" + process + ")", () -> x.lent(process));
        }
    }

    private static void stateOfAndPurse() {
        AlmsKernel x = Scenes.withFrames(0, 1);
        Checks.due("20: AWAKE", x.stateOf(0), 0);
        x.touch(0, 2);
        x.advance(1);
        Checks.due("20: WAITING", x.stateOf(0), 1);
        x.advance(1);
        Checks.due("20: AWAKE", x.stateOf(0), 0);
        Checks.due("20: ASLEEP", Scenes.oneAsleep().stateOf(0), 2);
        Checks.due("21: purse(0)", x.purse(0), 12);
        x.touch(0, 7);
        x.setWage(0, 2);
        x.advance(1);
        Checks.due("21: one that waits has its wage", x.purse(0), 14);
        AlmsKernel asleep = Scenes.oneAsleep();
        asleep.setWage(0, 9);
        asleep.sell(1);
        Checks.due("21: purse(1)", asleep.purse(1), 24);
        asleep.advance(1);
        Checks.due("21: a sleeper has alms and no wage", asleep.purse(0), 5);
        asleep.advance(1);
        Checks.due("21: awake it has its wage", asleep.purse(0), 14);
        for (int process : NO_PROCESS) {
            Checks.refused(x, INDEX, "20: stateOf(" + process + ")", () -> x.stateOf(process));
            Checks.refused(x, INDEX, "21: purse(" + process + ")", () -> x.purse(process));
        }
    }

    private static void faults() {
        AlmsKernel x = Scenes.withFrames(0, 1);
        x.touch(4, 7);
        Checks.due("22: a fault counts when it begins", x.faults(4), 1);
        x.advance(21);
        Checks.due("22: its page was dropped as it came", x.requests(), 0);
        Checks.due("22: its process sleeps", x.stateOf(4), 2);
        Checks.due("22: the fault counts", x.faults(4), 1);
        Checks.due("22: of another", x.faults(0), 0);
        x.touch(0, 0);
        x.advance(30);
        x.touch(0, 0);
        x.touch(0, 1);
        Checks.due("22: two faults and a hit", x.faults(0), 2);
        for (int process : NO_PROCESS) {
            Checks.refused(x, INDEX, "22: faults(" + process + ")", () -> x.faults(process));
        }
    }

    private static void loansAndInterest() {
        AlmsKernel x = Scenes.withFrames(2, 2);
        x.touch(0, 0);
        x.setRate(3);
        x.touch(1, 0);
        Checks.due("23: loans()", x.loans(), 2);
        Checks.due("24: lasts(0)", x.lasts(0));
        Checks.due("25: partiesOf(0)", x.partiesOf(0), 20);
        Checks.due("25: partiesOf(1)", x.partiesOf(1), 121);
        Checks.due("26: no interest yet", x.interest(0), 0);
        x.advance(2);
        Checks.due("26: interest(0)", x.interest(0), 6);
        Checks.due("26: interest(1)", x.interest(1), 6);
        Checks.purses("26", x, 14, 14, 16);
        x.payBack(0);
        x.advance(2);
        Checks.due("23: an ended loan counts", x.loans(), 2);
        Checks.due("24: it does not last", x.lasts(0) ? 1 : 0, 0);
        Checks.due("25: its parties stay", x.partiesOf(0), 20);
        Checks.due("26: its interest stays", x.interest(0), 6);
        Checks.due("26: the other goes on", x.interest(1), 12);
        for (int loan : new int[] {-1, 2, 60, Integer.MIN_VALUE, Integer.MAX_VALUE}) {
            Checks.refused(x, INDEX, "24: lasts(" + loan + ")", () -> x.lasts(loan) ? 1 : 0);
            Checks.refused(x, INDEX, "25: partiesOf(" + loan + ")", () -> x.partiesOf(loan));
            Checks.refused(x, INDEX, "26: interest(" + loan + ")", () -> x.interest(loan));
        }
    }

    private static void sleepAndAlms() {
        // Process 1 pays for two loans; with 3 in its purse at the rate 2 it pays the first alone.
        AlmsKernel x = Scenes.withFrames(0, 3);
        x.buy(1);
        x.touch(1, 0);
        x.advance(8);
        x.setRate(2);
        x.touch(1, 1);
        x.advance(2);
        x.drop(3);
        x.touch(1, 2);
        Checks.due("tick: process 1 waits in its own frame", x.pageIn(3), 2);
        x.advance(1);
        x.touch(1, 3);
        Checks.due("tick: a second loan", x.loans(), 2);
        Checks.due("tick: purse(1)", x.purse(1), 6);
        x.setRate(0);
        x.advance(1);
        x.drop(0);
        x.touch(1, 7);
        Checks.due("tick: coming in a borrowed frame", x.pageIn(0), 7);
        x.setRate(4);
        x.advance(1);
        // The first loan is paid; for the second process 1 has 2 left: it sleeps, and has alms.
        Checks.due("tick: stateOf(1)", x.stateOf(1), 2);
        Checks.due("tick: interest(0)", x.interest(0), 10);
        Checks.due("tick: interest(1)", x.interest(1), 0);
        Checks.due("tick: purse(1)", x.purse(1), 3);
        Checks.due("tick: loan 0 ended", x.lasts(0) ? 1 : 0, 0);
        Checks.due("tick: loan 1 ended", x.lasts(1) ? 1 : 0, 0);
        Checks.due("tick: the request is dropped", x.requests(), 0);
        Checks.due("tick: frame 0 is empty", x.pageIn(0), -1);
        Checks.due("tick: frame 0 is its owner's", x.holder(0), 0);
        Checks.due("tick: its own frame keeps its page", x.pageIn(3), 2);
        Checks.due("tick: and is its own", x.holder(3), 1);
        x.advance(1);
        Checks.due("tick: purse(1) after alms", x.purse(1), 4);
        Checks.due("tick: it sleeps below 5", x.stateOf(1), 2);
        x.advance(1);
        Checks.due("tick: purse(1) after alms", x.purse(1), 5);
        Checks.due("tick: it wakes with 5", x.stateOf(1), 0);
        x.advance(1);
        Checks.due("tick: no alms for those who are awake", x.purse(1), 5);
    }

    /** The page that comes is dropped in an own frame too, and of that process alone. */
    private static void sleepDropsWhatComes() {
        AlmsKernel x = new AlmsKernel();
        for (int process = 0; process < 3; process++) {
            x.buy(process);
        }
        x.setRate(0);
        x.touch(1, 0);
        x.advance(8);
        Checks.due("sleep: the loan", x.touch(1, 1), 0);
        x.advance(1);
        x.drop(1);
        Checks.due("sleep: process 1 waits in its own frame", x.touch(1, 7), 1);
        Checks.due("sleep: so does process 2", x.touch(2, 7), 2);
        x.setRate(9);
        x.advance(1);
        Checks.due("sleep: head()", x.head(), 10);
        Checks.due("sleep: requests()", x.requests(), 2);
        x.advance(1);
        Checks.due("sleep: stateOf(1)", x.stateOf(1), 2);
        Checks.due("sleep: its frame is empty", x.pageIn(1), -1);
        Checks.due("sleep: and its own", x.holder(1), 1);
        Checks.due("sleep: requestAt(0)", x.requestAt(0), 23);
        Checks.due("sleep: the other waits on", x.stateOf(2), 1);
        Checks.due("sleep: the head goes to its track", x.head(), 11);
        x.advance(12);
        Checks.due("sleep: head()", x.head(), 23);
        Checks.due("sleep: the other is awake", x.stateOf(2), 0);
        Checks.due("sleep: no page comes for the sleeper", x.pageIn(1), -1);
    }

    private static void wakingOrder() {
        // Two sleep at the same tick; the givers are the richest then, of several the lowest.
        AlmsKernel x = new AlmsKernel();
        x.buy(0);
        x.buy(0);
        x.setRate(9);
        x.touch(3, 0);
        x.touch(4, 0);
        x.advance(2);
        Checks.purses("alms: before", x, 40, 20, 20, 2, 2);
        x.setWage(1, 9);
        x.advance(1);
        Checks.purses("alms: the richest gives, twice", x, 38, 29, 20, 3, 3);
        x.advance(1);
        Checks.purses("alms: of equal ones the lowest, then the other", x, 37, 37, 20, 4, 4);
        Checks.due("alms: stateOf(3)", x.stateOf(3), 2);
        x.setWage(1, 0);
        x.advance(1);
        Checks.purses("alms: again", x, 36, 36, 20, 5, 5);
        Checks.due("alms: stateOf(4)", x.stateOf(4), 0);

        // One that waits gives too.
        AlmsKernel w = Scenes.oneAsleep();
        w.setWage(4, 9);
        w.setRate(0);
        w.touch(4, 7);
        w.advance(1);
        Checks.due("alms: it waits", w.stateOf(4), 1);
        Checks.purses("alms: it gives", w, 5, 20, 20, 20, 28);

        // With 19 and less nobody gives, and a sleeper sleeps on.
        AlmsKernel y = new AlmsKernel();
        y.buy(0);
        for (int process = 1; process < 5; process++) {
            y.buy(process);
            y.buy(process);
        }
        Checks.purses("alms: all are poor", y, 12, 4, 4, 4, 4);
        y.touch(1, 0);
        y.advance(10);
        y.touch(1, 1);
        y.advance(10);
        y.touch(1, 2);
        Checks.due("alms: a loan", y.loans(), 1);
        y.advance(5);
        Checks.due("alms: asleep", y.stateOf(1), 2);
        Checks.purses("alms: nobody gives", y, 16, 0, 4, 4, 4);
        y.setWage(0, 3);
        y.advance(1);
        Checks.purses("alms: 19 are too few", y, 19, 0);
        y.setWage(0, 1);
        y.advance(1);
        Checks.purses("alms: 20 are enough", y, 19, 1);
        y.setWage(0, 0);
        y.advance(1);
        Checks.purses("alms: 19 are too few again", y, 19, 1);
        y.setWage(0, 1);
        y.advance(4);
        Checks.purses("alms: until it wakes", y, 19, 5);
        Checks.due("alms: awake", y.stateOf(1), 0);
        wakingByInterest();
    }

    /** A sleeper that owns a lent frame has its interest, and wakes when it has 5 though nobody gives. */
    private static void wakingByInterest() {
        AlmsKernel x = new AlmsKernel();
        x.setRate(0);
        x.buy(0);
        x.buy(1);
        x.touch(0, 0);
        x.advance(1);
        x.touch(0, 1);
        x.advance(10);
        x.touch(2, 0);
        Checks.due("interest: process 0 has borrowed", x.partiesOf(0), 110);
        Checks.due("interest: and lent", x.partiesOf(1), 2);
        x.buy(2);
        x.buy(3);
        x.buy(4);
        x.buy(0);
        x.sell(5);
        x.buy(0);
        Checks.purses("interest: all are poor", x, 0, 12, 12, 12, 12);
        x.setRate(2);
        x.advance(1);
        Checks.due("interest: asleep", x.stateOf(0), 2);
        Checks.due("interest: what it borrowed is given back", x.lasts(0) ? 1 : 0, 0);
        Checks.due("interest: what it lent is not", x.lasts(1));
        Checks.purses("interest: paid to a sleeper", x, 2, 12, 10, 12, 12);
        x.advance(1);
        Checks.due("interest: still asleep", x.stateOf(0), 2);
        x.advance(1);
        Checks.due("interest: awake", x.stateOf(0), 0);
        Checks.purses("interest: nobody gave", x, 6, 12, 6, 12, 12);
    }

    private static void diskOrder() {
        // Requests at 16, 24 and 39: the nearest first; between equal ones the lower track.
        AlmsKernel x = new AlmsKernel();
        for (int process = 1; process < 4; process++) {
            x.buy(process);
        }
        x.touch(1, 0);
        x.advance(8);
        Checks.due("disk: head()", x.head(), 8);
        Checks.due("disk: process 1 is awake", x.stateOf(1), 0);
        x.touch(2, 2);
        x.advance(2);
        x.touch(3, 0);
        x.advance(8);
        Checks.due("disk: head() at 18", x.head(), 18);
        Checks.due("disk: process 2 is awake", x.stateOf(2), 0);
        x.touch(1, 4);
        Checks.due("disk: frame 0 is taken again", x.pageIn(0), 4);
        x.advance(1);
        Checks.due("disk: two as near, the lower", x.head(), 17);
        x.advance(5);
        Checks.due("disk: head() at 12", x.head(), 12);
        Checks.due("disk: process 1 is awake", x.stateOf(1), 0);
        Checks.due("disk: process 3 waits", x.stateOf(3), 1);
        x.advance(12);
        Checks.due("disk: head() at 24", x.head(), 24);
        Checks.due("disk: process 3 is awake", x.stateOf(3), 0);
        x.advance(3);
        Checks.due("disk: the head stays", x.head(), 24);
        x.drop(2);
        x.touch(3, 0);
        x.advance(1);
        Checks.due("disk: at its track it is done in a tick", x.stateOf(3), 0);
        Checks.due("disk: its age", x.age(2), 1);
    }

    /** Of two as near the lower track, whatever the order of the frames. */
    private static void diskTies() {
        for (int first = 1; first < 3; first++) {
            AlmsKernel x = new AlmsKernel();
            x.buy(first);
            x.buy(3 - first);
            x.touch(1, 4);
            x.advance(12);
            Checks.due("disk: head() at 12", x.head(), 12);
            x.drop(first == 1 ? 0 : 1);
            x.touch(1, 0);
            x.touch(2, 0);
            x.advance(1);
            Checks.due("disk: towards 8, not 16", x.head(), 11);
        }
    }

    private static void diskChoiceStays() {
        AlmsKernel x = new AlmsKernel();
        x.setRate(0);
        for (int process = 0; process < 4; process++) {
            x.buy(process);
        }
        // The choice is made in the tick: a nearer request that comes before it is chosen.
        x.touch(3, 0);
        x.touch(1, 0);
        x.advance(8);
        Checks.due("disk: the nearer request is done", x.stateOf(1), 0);
        Checks.due("disk: the farther waits", x.stateOf(3), 1);
        // Process 3 is chosen now, and stays so where the head stands at the track of another request.
        x.advance(4);
        Checks.due("disk: head() at 12", x.head(), 12);
        x.touch(1, 5);
        x.touch(2, 0);
        x.advance(4);
        Checks.due("disk: it passes 13 and 16", x.head(), 16);
        Checks.due("disk: nothing is done there", x.requests(), 3);
        x.advance(8);
        Checks.due("disk: the chosen one is done", x.stateOf(3), 0);
        Checks.due("disk: head() at 24", x.head(), 24);
        x.advance(8);
        Checks.due("disk: then 16", x.stateOf(2), 0);
        x.advance(3);
        Checks.due("disk: then 13", x.stateOf(1), 0);

        // A chosen request that is dropped is chosen no more, though the same page is asked for again.
        AlmsKernel y = Scenes.withFrames(0, 2);
        y.touch(4, 7);
        y.advance(21);
        Checks.due("disk: process 4 sleeps", y.stateOf(4), 2);
        Checks.due("disk: head()", y.head(), 20);
        y.advance(10);
        Checks.due("disk: the head stays", y.head(), 20);
        y.touch(4, 7);
        y.touch(0, 7);
        Checks.due("disk: process 4 waits again", y.stateOf(4), 1);
        y.advance(1);
        Checks.due("disk: towards the nearest of both", y.head(), 19);
    }

    private static void requests() {
        AlmsKernel x = Scenes.withFrames(1, 2);
        Checks.due("28: requests()", x.requests(), 0);
        Checks.due("29: requestAt(0)", x.requestAt(0), -1);
        x.buy(0);
        x.touch(1, 3);
        x.touch(0, 5);
        x.touch(4, 7);
        Checks.due("27: head()", x.head(), 0);
        Checks.due("28: requests()", x.requests(), 3);
        Checks.due("29: requestAt(0)", x.requestAt(0), 5);
        Checks.due("29: requestAt(1)", x.requestAt(1), 11);
        Checks.due("29: requestAt(2)", x.requestAt(2), 39);
        Checks.due("29: requestAt(3)", x.requestAt(3), -1);
        Checks.due("29: requestAt(2147483647)", x.requestAt(Integer.MAX_VALUE), -1);
        Checks.refused(x, INDEX, "29: requestAt(-1)", () -> x.requestAt(-1));
        Checks.refused(x, INDEX, "29: requestAt(-2147483648)", () -> x.requestAt(Integer.MIN_VALUE));
        x.advance(5);
        Checks.due("27: head()", x.head(), 5);
        Checks.due("28: a request that is done is none", x.requests(), 2);
        Checks.due("29: requestAt(0)", x.requestAt(0), 11);
        x.touch(0, 0);
        Checks.due("29: the track 0", x.requestAt(0), 0);
    }
}
