/** What a state allows and refuses for frames and purses, by promise and sentence, on both sides of each boundary. */
public final class FrameBoundariesTest {
    private FrameBoundariesTest() {
    }

    public static void main(String[] args) {
        promise1();
        promise4AsleepWaitingAwake();
        promise4NoFrameIsFree();
        promise4ItsPurseIsLessThan8();
        promise4TheLowestFreeFrame();
        promise5ItIsFree();
        promise5Lent();
        promise5NotEmpty();
        promise5ItsOwnerIsAsleep();
        promise5For4();
        promise6NoPageThatIsThere();
        promises11To13NoneIfItIsFree();
        promises12And13AsALoanBeginsAndEnds();
        promise13FromTheLogOfAllLoans();
        promises14And15EmptyComingThere();
        promise15HowManyTicksAgo();
        promises16And17NoneAndAll();
        promise16TheMemoryAtEachTick();
        promises18And19NoneAndMost();
        promise21NothingAndMost();
        Checks.end();
    }

    private static void promise1() {
        AlmsKernel other = Scenes.busy();
        AlmsKernel x = new AlmsKernel();
        String name = "Promise 1, 'A new object', though another is busy: ";
        Checks.due(name + "tick()", x.tick(), 0);
        Checks.due(name + "free()", x.free(), 12);
        Checks.due(name + "head()", x.head(), 0);
        Checks.due(name + "loans()", x.loans(), 0);
        Checks.due(name + "requests()", x.requests(), 0);
        for (int frame = 0; frame < 12; frame++) {
            Checks.due(name + "owner", x.owner(frame), AlmsKernel.NONE);
            Checks.due(name + "pageIn", x.pageIn(frame), AlmsKernel.NONE);
        }
        for (int process = 0; process < 5; process++) {
            Checks.due(name + "stateOf", x.stateOf(process), AlmsKernel.AWAKE);
            Checks.due(name + "purse", x.purse(process), 20);
            Checks.due(name + "setWage", x.setWage(process, 9), 0);
            Checks.due(name + "faults", x.faults(process), 0);
        }
        Checks.due(name + "setRate", x.setRate(9), 1);
        Checks.due("Promise 1: the other is what it was", Checks.snapshot(other), Checks.snapshot(Scenes.busy()));
    }

    private static void promise4AsleepWaitingAwake() {
        String name = "Promise 4, 'if it is ASLEEP': ";
        Checks.refused(Checks.STATE, name + "a sleeper", Scenes::oneAsleep, x -> x.buy(0));
        AlmsKernel awake = Scenes.oneAsleep();
        Scenes.bringPurse(awake, 1, 24);
        awake.setWage(0, 9);
        awake.advance(2);
        Checks.due(name + "one that is awake again", awake.buy(0), 2);
        AlmsKernel waiting = Scenes.oneFrameEach();
        waiting.touch(2, 7);
        Checks.due(name + "one that is WAITING", waiting.buy(2), 5);
        Checks.due(name + "it waits still", waiting.stateOf(2), AlmsKernel.WAITING);
    }

    private static void promise4NoFrameIsFree() {
        String name = "Promise 4, 'no frame is free': ";
        AlmsKernel x = Scenes.withFrames(0, 11);
        Checks.due(name + "one is", x.free(), 1);
        Checks.due(name + "the last", x.buy(1), 11);
        Checks.refused(Checks.STATE, name + "none is", () -> {
            AlmsKernel y = Scenes.withFrames(0, 12);
            Checks.due(name + "but the purse is enough", y.purse(0) >= 8);
            return y;
        }, y -> y.buy(0));
        x.sell(5);
        Checks.due(name + "one is again", x.buy(2), 5);
    }

    private static void promise4ItsPurseIsLessThan8() {
        String name = "Promise 4, 'its purse is less than 8': ";
        AlmsKernel x = withPurse(8);
        Checks.due(name + "8 is not", x.buy(3), 0);
        Checks.due("Promise 4, 'for the price of 8': of 8 nothing is left", x.purse(3), 0);
        Checks.refused(x, Checks.STATE, name + "0", () -> x.buy(3));
        Checks.refused(Checks.STATE, name + "7", () -> withPurse(7), y -> y.buy(3));
        AlmsKernel nine = withPurse(9);
        Checks.due(name + "9 is not", nine.buy(3), 0);
        Checks.due("Promise 4, 'for the price of 8': of 9", nine.purse(3), 1);
    }

    private static AlmsKernel withPurse(int amount) {
        AlmsKernel x = new AlmsKernel();
        Scenes.bringPurse(x, 3, amount);
        return x;
    }

    private static void promise4TheLowestFreeFrame() {
        String name = "Promise 4, 'the lowest free frame': ";
        AlmsKernel x = Scenes.withFrames(2, 12);
        x.sell(11);
        x.sell(3);
        x.sell(7);
        Checks.due(name + "of 3, 7 and 11", x.buy(2), 3);
        x.sell(0);
        Checks.due(name + "of 0, 7 and 11", x.buy(1), 0);
        Checks.due(name + "of 7 and 11", x.buy(4), 7);
        Checks.due(name + "of 11 alone", x.buy(2), 11);
        Checks.due("Promise 4, 'A process buys a frame': its owner", x.owner(0), 1);
        Checks.due("Promise 4, 'A process buys a frame': its holder", x.holder(0), 1);
        Checks.due("Promise 4, 'A process buys a frame': it is empty", x.pageIn(0), AlmsKernel.NONE);
    }

    private static void promise5ItIsFree() {
        String name = "Promise 5, 'if it is free': ";
        Checks.refused(Checks.STATE, name + "as at first", AlmsKernel::new, x -> x.sell(0));
        Checks.refused(Checks.STATE, name + "the next after those that are bought", Scenes::oneFrameEach,
            x -> x.sell(5));
        AlmsKernel x = Scenes.oneFrameEach();
        Checks.due(name + "it is not", x.sell(4), 16);
        Checks.refused(x, Checks.STATE, name + "sold already", () -> x.sell(4));
    }

    private static void promise5Lent() {
        String name = "Promise 5, 'lent': ";
        Checks.refused(Checks.STATE, name + "and its page is coming", () -> lentFrame(0), x -> x.sell(0));
        Checks.refused(Checks.STATE, name + "and its page is there", () -> lentFrame(1), x -> x.sell(0));
        Checks.refused(Checks.STATE, name + "and empty", () -> lentFrame(2), x -> x.sell(0));
        AlmsKernel x = lentFrame(2);
        x.payBack(0);
        Checks.due(name + "paid back", x.sell(0), x.purse(0));
        Checks.due("Promise 5, 'it is free then'", x.owner(0), AlmsKernel.NONE);
    }

    /** Frame 0 of process 0 is lent to process 1: its page is coming (0), there (1), or dropped (2). */
    private static AlmsKernel lentFrame(int step) {
        AlmsKernel x = Scenes.withFrames(0, 1);
        x.touch(1, 0);
        if (step > 0) {
            Scenes.untilAwake(x, 1);
        }
        if (step > 1) {
            x.drop(0);
        }
        return x;
    }

    private static void promise5NotEmpty() {
        String name = "Promise 5, 'not empty': ";
        Checks.refused(Checks.STATE, name + "the page 0 is coming", () -> Scenes.ownPage(0), x -> x.sell(0));
        Checks.refused(Checks.STATE, name + "the page 0 is there", () -> Scenes.ownPage(1), x -> x.sell(0));
        AlmsKernel x = Scenes.ownPage(1);
        x.drop(0);
        Checks.due(name + "the page is dropped", x.sell(0), 16);
        AlmsKernel other = Scenes.withFrames(0, 2);
        other.touch(0, 7);
        Checks.due(name + "another frame's page is coming", other.sell(1), 8);
    }

    private static void promise5ItsOwnerIsAsleep() {
        String name = "Promise 5, 'its owner is ASLEEP': ";
        Checks.refused(Checks.STATE, name + "it is", FrameBoundariesTest::sleeperWithEmptyFrame, x -> x.sell(0));
        AlmsKernel x = sleeperWithEmptyFrame();
        x.advance(1);
        Checks.due(name + "awake again", x.sell(0), 9);
        AlmsKernel other = sleeperWithEmptyFrame();
        Checks.due(name + "another sleeps", other.sell(1), 24);
        AlmsKernel waiting = Scenes.withFrames(0, 2);
        waiting.touch(0, 7);
        Checks.due(name + "its owner is WAITING", waiting.sell(1), 8);
    }

    private static AlmsKernel sleeperWithEmptyFrame() {
        AlmsKernel x = Scenes.oneAsleep();
        x.drop(0);
        return x;
    }

    private static void promise5For4() {
        AlmsKernel x = new AlmsKernel();
        Scenes.bringPurse(x, 3, 8);
        x.buy(3);
        Checks.due("Promise 5, 'for 4': with nothing in the purse", x.sell(0), 4);
        Checks.due("Promise 5, 'Returns the purse of its owner then'", x.purse(3), 4);
        Checks.purses("Promise 5, 'for 4': nobody else has it", x, 20, 20, 20, 4, 20);
        Checks.due("Promise 5, 'it is free then': free()", x.free(), 12);
    }

    private static void promise6NoPageThatIsThere() {
        String name = "Promise 6, 'if it has no page that is there': ";
        Checks.refused(Checks.STATE, name + "free", AlmsKernel::new, x -> x.drop(0));
        Checks.refused(Checks.STATE, name + "empty", Scenes::oneFrameEach, x -> x.drop(0));
        Checks.refused(Checks.STATE, name + "coming, and chosen", Scenes::busy, x -> x.drop(3));
        Checks.refused(Checks.STATE, name + "coming, and not chosen", Scenes::busy, x -> x.drop(4));
        Checks.refused(Checks.STATE, name + "the page 0 is coming", () -> Scenes.ownPage(0), x -> x.drop(0));
        Checks.refused(Checks.STATE, name + "lent, coming", () -> lentFrame(0), x -> x.drop(0));
        Checks.refused(Checks.STATE, name + "lent, empty", () -> lentFrame(2), x -> x.drop(0));
        AlmsKernel x = Scenes.ownPage(1);
        Checks.due(name + "it came at the last tick", x.drop(0), 0);
        Checks.due("Promise 6, 'which is empty then'", x.pageIn(0), AlmsKernel.NONE);
        Checks.due("Promise 6, 'which is empty then': its owner", x.owner(0), 0);
        Checks.refused(x, Checks.STATE, name + "dropped already", () -> x.drop(0));
        AlmsKernel sleeper = Scenes.oneAsleep();
        Checks.due(name + "a sleeper's is there", sleeper.drop(0), 0);
        Checks.due(name + "it sleeps on", sleeper.stateOf(0), AlmsKernel.ASLEEP);
        AlmsKernel lent = lentFrame(1);
        Checks.due(name + "a lent frame's is there", lent.drop(0), 0);
        Checks.due("Promise 6: the loan lasts", lent.lasts(0));
        Checks.due("Promise 6: the borrower holds it", lent.holder(0), 1);
        AlmsKernel busy = Scenes.busy();
        busy.drop(0);
        Checks.due("Promise 6: the chosen request stays", busy.requests(), 3);
        busy.advance(1);
        Checks.due("Promise 6: the head goes on to it", busy.head(), Scenes.busy().head() + 1);
    }

    private static void promises11To13NoneIfItIsFree() {
        AlmsKernel x = Scenes.withFrames(4, 1);
        for (int frame = 0; frame < 12; frame++) {
            int want = frame == 0 ? 4 : AlmsKernel.NONE;
            Checks.due("Promise 11, 'NONE if it is free': " + frame, x.owner(frame), want);
            Checks.due("Promise 12, 'NONE if it is free': " + frame, x.holder(frame), want);
            Checks.due("Promise 13, 'NONE if it is free': " + frame, x.holderByLog(frame), want);
        }
        // A frame that was lent, and is sold then, is in the log, and free all the same.
        AlmsKernel sold = lentFrame(1);
        sold.payBack(0);
        sold.sell(0);
        Checks.due("Promise 11, 'NONE if it is free': sold", sold.owner(0), AlmsKernel.NONE);
        Checks.due("Promise 12, 'NONE if it is free': sold", sold.holder(0), AlmsKernel.NONE);
        Checks.due("Promise 13, 'NONE if it is free': sold", sold.holderByLog(0), AlmsKernel.NONE);
        sold.buy(3);
        Checks.due("Promise 13: bought by another then", sold.holderByLog(0), 3);
    }

    private static void promises12And13AsALoanBeginsAndEnds() {
        AlmsKernel x = Scenes.withFrames(0, 1);
        holders("before the loan", x, 0);
        x.touch(1, 0);
        holders("while its page is coming", x, 1);
        x.advance(8);
        holders("while its page is there", x, 1);
        x.drop(0);
        holders("while it is empty", x, 1);
        x.payBack(0);
        holders("paid back", x, 0);
        x.touch(2, 0);
        holders("lent again", x, 2);
        Scenes.untilAwake(x, 2);
        x.touch(0, 0);
        holders("called in", x, 0);
        AlmsKernel sleeper = Scenes.oneAsleep();
        Checks.due("Promise 12: the borrower was put to sleep", sleeper.holder(1), 1);
        Checks.due("Promise 13: the borrower was put to sleep", sleeper.holderByLog(1), 1);
    }

    private static void holders(String when, AlmsKernel x, int want) {
        Checks.due("Promise 11, owner(0) " + when, x.owner(0), 0);
        Checks.due("Promise 12, holder(0) " + when, x.holder(0), want);
        Checks.due("Promise 13, holderByLog(0) " + when, x.holderByLog(0), want);
    }

    private static void promise13FromTheLogOfAllLoans() {
        AlmsKernel x = Scenes.afterLoans(59);
        Checks.due("Promise 13, 'found from the log of all loans': all 59 have ended", x.holderByLog(0), 0);
        x.touch(1, 0);
        Checks.due("Promise 13, 'found from the log of all loans': by the loan 59", x.holderByLog(0), 1);
        Checks.due("Promise 12: by the loan 59", x.holder(0), 1);
    }

    private static void promises14And15EmptyComingThere() {
        AlmsKernel x = Scenes.withFrames(0, 1);
        pageAndAge("the page 0 and a free frame", x, 1, -1, -1);
        pageAndAge("empty", x, 0, -1, -1);
        x.touch(0, 0);
        pageAndAge("the page 0 is coming", x, 0, 0, -1);
        x.advance(1);
        pageAndAge("the page 0 is there", x, 0, 0, 1);
        x.touch(0, 0);
        pageAndAge("touched", x, 0, 0, 0);
        x.touch(0, 7);
        pageAndAge("the page 7 is coming in its place", x, 0, 7, -1);
        x.advance(7);
        pageAndAge("the page 7 is there", x, 0, 7, 1);
        x.drop(0);
        pageAndAge("dropped", x, 0, -1, -1);
        x.sell(0);
        pageAndAge("sold", x, 0, -1, -1);
    }

    private static void pageAndAge(String when, AlmsKernel x, int frame, int page, int age) {
        Checks.due("Promise 14, 'NONE if it is empty or free': " + when, x.pageIn(frame), page);
        Checks.due("Promise 15, 'NONE if it has no page that is there': " + when, x.age(frame), age);
    }

    private static void promise15HowManyTicksAgo() {
        String name = "Promise 15, 'how many ticks ago that was touched last, or came': ";
        AlmsKernel x = Scenes.ownPage(1);
        Checks.due(name + "it came at the tick before this", x.age(0), 1);
        x.advance(1);
        Checks.due(name + "a tick later", x.age(0), 2);
        x.touch(0, 0);
        Checks.due(name + "touched at this tick", x.age(0), 0);
        x.touch(0, 0);
        Checks.due(name + "and again", x.age(0), 0);
        x.advance(1);
        Checks.due(name + "touched at the tick before", x.age(0), 1);
        AlmsKernel old = Scenes.ownPage(1);
        Scenes.untilTick(old, 50000);
        Checks.due(name + "it came at the tick 0, now it is 50000", old.age(0), 50000);
        Checks.due("Promise 7: a hit at the tick 50000", old.touch(0, 0), AlmsKernel.NONE);
        Checks.due(name + "touched at the tick 50000", old.age(0), 0);
    }

    private static void promises16And17NoneAndAll() {
        AlmsKernel x = Scenes.withFrames(4, 12);
        Checks.due("Promise 16, 'how many frames are free': none", x.free(), 0);
        Checks.due("Promise 17, 'how many frames a process owns': all", x.owns(4), 12);
        Checks.due("Promise 17, 'how many frames a process owns': none", x.owns(0), 0);
        x.sell(11);
        Checks.due("Promise 16, 'how many frames are free': one", x.free(), 1);
        Checks.due("Promise 17, 'how many frames a process owns': all but one", x.owns(4), 11);
        for (int frame = 0; frame < 11; frame++) {
            x.sell(frame);
        }
        Checks.due("Promise 16, 'how many frames are free': all", x.free(), 12);
        Checks.due("Promise 17, 'how many frames a process owns': sold", x.owns(4), 0);
    }

    private static void promise16TheMemoryAtEachTick() {
        String name = "Promise 16, 'free, and those that are owned, lent or not, are the memory at each tick': ";
        AlmsKernel x = Scenes.busy();
        for (int tick = 0; tick < 60; tick++) {
            int frames = x.free();
            int lent = 0;
            int borrowed = 0;
            for (int process = 0; process < 5; process++) {
                frames += x.owns(process);
                lent += x.lent(process);
                borrowed += x.borrowed(process);
            }
            int lasting = 0;
            for (int loan = 0; loan < x.loans(); loan++) {
                lasting += x.lasts(loan) ? 1 : 0;
            }
            Checks.due(name + "all frames, " + tick + " later", frames, 12);
            Checks.due(name + "as many lent as loans last, " + tick + " later", lent, lasting);
            Checks.due(name + "as many borrowed as loans last, " + tick + " later", borrowed, lasting);
            x.advance(1);
        }
    }

    /** Each of the other processes borrows the three frames that it may: then all twelve are lent. */
    private static void promises18And19NoneAndMost() {
        AlmsKernel x = Scenes.withFrames(2, 12);
        x.setRate(0);
        int loan = 0;
        for (int process = 0; process < 5; process++) {
            for (int page = 0; page < 3 && process != 2; page++) {
                Checks.due("Promise 18, 'has borrowed now': so far", x.borrowed(process), page);
                Checks.due("Promise 19, 'has lent now': so far", x.lent(2), loan);
                Scenes.fetch(x, process, page);
                loan++;
            }
        }
        Checks.due("Promise 19, 'has lent now': all", x.lent(2), 12);
        Checks.due("Promise 17, 'those that it has lent too'", x.owns(2), 12);
        Checks.due("Promise 16: none is free", x.free(), 0);
        Checks.due("Promise 18, 'has borrowed now': the most", x.borrowed(4), 3);
        Checks.due("Promise 18, 'has borrowed now': the lender", x.borrowed(2), 0);
        Checks.due("Promise 19, 'has lent now': a borrower", x.lent(4), 0);
        x.payBack(11);
        Checks.due("Promise 18, 'has borrowed now': one paid back", x.borrowed(4), 2);
        Checks.due("Promise 19, 'has lent now': one paid back", x.lent(2), 11);
        Checks.due("Promise 7, way 1: the frame that came back", x.touch(2, 0), 11);
    }

    private static void promise21NothingAndMost() {
        AlmsKernel x = new AlmsKernel();
        x.setWage(0, 9);
        Scenes.untilTick(x, 50000);
        Checks.due("Promise 21, 'the purse of a process': the most that wages bring", x.purse(0), 450020);
        Checks.due("Promise 21, 'the purse of a process': without a wage", x.purse(1), 20);
        AlmsKernel poor = withPurse(8);
        poor.buy(3);
        Checks.due("Promise 21, 'the purse of a process': nothing", poor.purse(3), 0);
        poor.advance(200);
        Checks.due("Promise 21, 'the purse of a process': nothing still", poor.purse(3), 0);
        Checks.due("Promise 20: with nothing it is AWAKE, as it has no loan", poor.stateOf(3), AlmsKernel.AWAKE);
    }
}
