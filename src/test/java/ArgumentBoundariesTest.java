import java.util.function.ToIntFunction;

/**
 * The ranges of the arguments, by promise and sentence: the lowest and the highest that are taken, those next
 * to them that are not, which exception is the first of several, and that a refused call changes nothing.
 */
public final class ArgumentBoundariesTest {
    private static final int MIN = Integer.MIN_VALUE;
    private static final int MAX = Integer.MAX_VALUE;
    private static final int[] NO_PROCESS = {-1, 5, MIN, MAX};
    private static final int[] NO_FRAME = {-1, 12, MIN, MAX};
    private static final int[] NO_PAGE = {-1, 8, MIN, MAX};
    private static final int[] NO_SETTING = {-1, 10, MIN, MAX};

    private ArgumentBoundariesTest() {
    }

    /** A call with one argument. */
    private interface Call {
        int of(AlmsKernel x, int argument);
    }

    public static void main(String[] args) {
        promise2Process();
        promise2Wage();
        promise3Rate();
        promise4Process();
        promise5And6Frame();
        promise7ProcessAndPage();
        promise8Loan();
        promise9Ticks();
        promises11To15Frame();
        promises17To22Process();
        promises24To26Loan();
        promise29Place();
        firstOfSeveralExceptions();
        Checks.end();
    }

    private static void noneOf(Class<? extends RuntimeException> want, String name, int[] arguments, Call call) {
        for (int argument : arguments) {
            refused(want, name + ": " + argument, x -> call.of(x, argument));
        }
    }

    private static void refused(Class<? extends RuntimeException> want, String name, ToIntFunction<AlmsKernel> call) {
        Checks.refused(want, name, Scenes::busy, call);
    }

    private static void promise2Process() {
        String name = "Promise 2, 'process: 0 to 4'";
        for (int process = 0; process <= 4; process += 4) {
            AlmsKernel x = new AlmsKernel();
            Checks.due(name + ": " + process, x.setWage(process, 1), 0);
            x.advance(1);
            Checks.due(name + ": the wage of " + process, x.purse(process), 21);
            Checks.due(name + ": not that of another", x.purse(4 - process), 20);
        }
        noneOf(Checks.INDEX, "Promise 2, 'if there is no such process'", NO_PROCESS, (x, p) -> x.setWage(p, 1));
    }

    private static void promise2Wage() {
        String name = "Promise 2, 'wage: 0 to 9'";
        AlmsKernel x = new AlmsKernel();
        Checks.due(name + ": 9 after 0", x.setWage(2, 9), 0);
        x.advance(1);
        Checks.due(name + ": a wage of 9", x.purse(2), 29);
        Checks.due(name + ": 0 after 9", x.setWage(2, 0), 9);
        x.advance(1);
        Checks.due(name + ": a wage of 0", x.purse(2), 29);
        Checks.due("Promise 2, 'Returns the wage before': the same again", x.setWage(2, 0), 0);
        Checks.due("Promise 2, 'Sets the wage of a process': of a sleeper too", Scenes.oneAsleep().setWage(0, 9), 0);
        noneOf(Checks.ARGUMENT, "Promise 2, 'if wage is out of range'", NO_SETTING, (y, wage) -> y.setWage(2, wage));
    }

    private static void promise3Rate() {
        String name = "Promise 3, 'rate: 0 to 9'";
        AlmsKernel x = Scenes.oneFrameEach();
        Scenes.fetch(x, 0, 0);
        Checks.due(name + ": 9 after 1", x.setRate(9), 1);
        x.touch(0, 7);
        x.advance(1);
        Checks.due(name + ": a rate of 9", x.purse(0), 3);
        Checks.due(name + ": 0 after 9", x.setRate(0), 9);
        x.advance(1);
        Checks.due(name + ": a rate of 0", x.purse(0), 3);
        Checks.due("Promise 3, 'Returns the rate before': the same again", x.setRate(0), 0);
        noneOf(Checks.ARGUMENT, "Promise 3, 'if rate is out of range'", NO_SETTING, AlmsKernel::setRate);
    }

    private static void promise4Process() {
        String name = "Promise 4, 'process: 0 to 4'";
        AlmsKernel x = new AlmsKernel();
        Checks.due(name + ": 0", x.buy(0), 0);
        Checks.due(name + ": 4", x.buy(4), 1);
        Checks.due(name + ": owner(1)", x.owner(1), 4);
        noneOf(Checks.INDEX, "Promise 4, 'if there is no such process'", NO_PROCESS, AlmsKernel::buy);
    }

    private static void promise5And6Frame() {
        AlmsKernel x = Scenes.withFrames(3, 12);
        Scenes.fetch(x, 3, 5);
        Checks.due("Promise 6, 'frame: 0 to 11': 0", x.drop(0), 5);
        Checks.due("Promise 5, 'frame: 0 to 11': 0", x.sell(0), x.purse(3));
        Checks.due("Promise 5, 'frame: 0 to 11': 11", x.sell(11), x.purse(3));
        Checks.due("Promise 5, 'frame: 0 to 11': free()", x.free(), 2);
        AlmsKernel y = twelveWithThePageInTheLast();
        Checks.due("Promise 6, 'frame: 0 to 11': 11", y.drop(11), 7);
        noneOf(Checks.INDEX, "Promise 5, 'if there is no such frame'", NO_FRAME, AlmsKernel::sell);
        noneOf(Checks.INDEX, "Promise 6, 'if there is no such frame'", NO_FRAME, AlmsKernel::drop);
    }

    /** The frames 0 to 7 of process 3 have its pages; 8 to 10 are lent, and 11 has the page 7 of process 2. */
    private static AlmsKernel twelveWithThePageInTheLast() {
        AlmsKernel x = Scenes.withFrames(3, 12);
        x.setRate(0);
        for (int page = 0; page < 8; page++) {
            Scenes.fetch(x, 3, page);
        }
        Scenes.fetch(x, 0, 1);
        Scenes.fetch(x, 1, 1);
        Scenes.fetch(x, 4, 1);
        Checks.due("Promise 7, 'the frame in which it is coming': the last", Scenes.fetch(x, 2, 7), 11);
        return x;
    }

    private static void promise7ProcessAndPage() {
        for (int process = 0; process <= 4; process += 4) {
            for (int page = 0; page <= 7; page += 7) {
                String name = "Promise 7, 'process: 0 to 4', 'page: 0 to 7': " + process + ", " + page;
                AlmsKernel x = Scenes.oneFrameEach();
                Checks.due(name, x.touch(process, page), process);
                Checks.due(name + ", requestAt(0)", x.requestAt(0), 8 * process + page);
                Checks.due(name + ", pageIn", x.pageIn(process), page);
            }
        }
        String name = "Promise 7, 'if there is no such process or page': ";
        noneOf(Checks.INDEX, name + "a process", NO_PROCESS, (x, p) -> x.touch(p, 0));
        noneOf(Checks.INDEX, name + "a page", NO_PAGE, (x, page) -> x.touch(2, page));
        noneOf(Checks.INDEX, name + "both", NO_PROCESS, (x, p) -> x.touch(p, 8));
    }

    private static void promise8Loan() {
        String name = "Promise 8, 'if there was no such loan': ";
        AlmsKernel x = new AlmsKernel();
        Checks.refused(x, Checks.INDEX, name + "0 of none", () -> x.payBack(0));
        AlmsKernel y = Scenes.oneFrameEach();
        Scenes.fetch(y, 0, 0);
        Scenes.fetch(y, 0, 1);
        Checks.due("Promise 8, 'a loan': the only one", y.payBack(0), 1);
        Checks.due("Promise 8, 'a loan': the last of three", Scenes.busy().payBack(2), 0);
        noneOf(Checks.INDEX, name + "of three", new int[] {-1, 3, 59, 60, MIN, MAX}, AlmsKernel::payBack);
        AlmsKernel full = Scenes.afterLoans(59);
        Scenes.fetch(full, 1, 0);
        for (int loan : new int[] {60, 61, -1}) {
            Checks.refused(full, Checks.INDEX, name + loan + " of sixty", () -> full.payBack(loan));
        }
        Checks.due("Promise 8, 'a loan': 59 of sixty", full.payBack(59), 0);
    }

    private static void promise9Ticks() {
        String name = "Promise 9, 'ticks: 1 to 200': ";
        AlmsKernel x = new AlmsKernel();
        Checks.due(name + "1", x.advance(1), 1);
        Checks.due(name + "200", x.advance(200), 201);
        noneOf(Checks.ARGUMENT, "Promise 9, 'if ticks is out of range'", new int[] {0, -1, 201, MIN, MAX},
            AlmsKernel::advance);
    }

    private static void promises11To15Frame() {
        AlmsKernel x = Scenes.withFrames(4, 12);
        x.setRate(0);
        Scenes.fetch(x, 4, 6);
        for (int frame = 0; frame <= 11; frame += 11) {
            String of = ", 'frame: 0 to 11': " + frame;
            Checks.due("Promise 11" + of, x.owner(frame), 4);
            Checks.due("Promise 12" + of, x.holder(frame), 4);
            Checks.due("Promise 13" + of, x.holderByLog(frame), 4);
            Checks.due("Promise 14" + of, x.pageIn(frame), frame == 0 ? 6 : -1);
            Checks.due("Promise 15" + of, x.age(frame), frame == 0 ? 1 : -1);
        }
        AlmsKernel last = twelveWithThePageInTheLast();
        Checks.due("Promise 11, 'frame: 0 to 11': 11 that is lent", last.owner(11), 3);
        Checks.due("Promise 12, 'frame: 0 to 11': 11 that is lent", last.holder(11), 2);
        Checks.due("Promise 13, 'frame: 0 to 11': 11 that is lent", last.holderByLog(11), 2);
        Checks.due("Promise 14, 'frame: 0 to 11': 11 with a page", last.pageIn(11), 7);
        Checks.due("Promise 15, 'frame: 0 to 11': 11 with a page", last.age(11), 1);
        String name = ", 'if there is no such frame'";
        noneOf(Checks.INDEX, "Promise 11" + name, NO_FRAME, AlmsKernel::owner);
        noneOf(Checks.INDEX, "Promise 12" + name, NO_FRAME, AlmsKernel::holder);
        noneOf(Checks.INDEX, "Promise 13" + name, NO_FRAME, AlmsKernel::holderByLog);
        noneOf(Checks.INDEX, "Promise 14" + name, NO_FRAME, AlmsKernel::pageIn);
        noneOf(Checks.INDEX, "Promise 15" + name, NO_FRAME, AlmsKernel::age);
    }

    private static void promises17To22Process() {
        AlmsKernel x = Scenes.busy();
        String low = ", 'process: 0 to 4': 0";
        Checks.due("Promise 17" + low, x.owns(0), 2);
        Checks.due("Promise 18" + low, x.borrowed(0), 0);
        Checks.due("Promise 19" + low, x.lent(0), 1);
        Checks.due("Promise 20" + low, x.stateOf(0), AlmsKernel.WAITING);
        Checks.due("Promise 22" + low, x.faults(0), 1);
        String high = ", 'process: 0 to 4': 4";
        Checks.due("Promise 17" + high, x.owns(4), 1);
        Checks.due("Promise 18" + high, x.borrowed(4), 0);
        Checks.due("Promise 19" + high, x.lent(4), 0);
        Checks.due("Promise 20" + high, x.stateOf(4), AlmsKernel.WAITING);
        Checks.due("Promise 22" + high, x.faults(4), 1);
        Checks.due("Promise 21" + high, x.purse(4), 12);
        Checks.due("Promise 21" + low, new AlmsKernel().purse(0), 20);
        String name = ", 'if there is no such process'";
        noneOf(Checks.INDEX, "Promise 17" + name, NO_PROCESS, AlmsKernel::owns);
        noneOf(Checks.INDEX, "Promise 18" + name, NO_PROCESS, AlmsKernel::borrowed);
        noneOf(Checks.INDEX, "Promise 19" + name, NO_PROCESS, AlmsKernel::lent);
        noneOf(Checks.INDEX, "Promise 20" + name, NO_PROCESS, AlmsKernel::stateOf);
        noneOf(Checks.INDEX, "Promise 21" + name, NO_PROCESS, AlmsKernel::purse);
        noneOf(Checks.INDEX, "Promise 22" + name, NO_PROCESS, AlmsKernel::faults);
    }

    private static void promises24To26Loan() {
        AlmsKernel x = Scenes.busy();
        for (int loan = 0; loan < 3; loan++) {
            Checks.due("Promise 24, 'a loan': " + loan, x.lasts(loan) ? 1 : 0, loan == 2 ? 1 : 0);
        }
        Checks.due("Promise 25, 'a loan': 0", x.partiesOf(0), 1);
        Checks.due("Promise 25, 'a loan': 2", x.partiesOf(2), 2);
        // For the loan 1 the rate 9 was paid once: at the next tick its borrower slept.
        Checks.due("Promise 26, 'a loan': 0", x.interest(0), 0);
        Checks.due("Promise 26, 'a loan': 1", x.interest(1), 9);
        Checks.due("Promise 26, 'a loan': 2", x.interest(2), 4);
        int[] none = {-1, 3, 59, 60, MIN, MAX};
        String name = ", 'if there was no such loan'";
        noneOf(Checks.INDEX, "Promise 24" + name, none, (y, loan) -> y.lasts(loan) ? 1 : 0);
        noneOf(Checks.INDEX, "Promise 25" + name, none, AlmsKernel::partiesOf);
        noneOf(Checks.INDEX, "Promise 26" + name, none, AlmsKernel::interest);
        AlmsKernel empty = new AlmsKernel();
        Checks.refused(empty, Checks.INDEX, "Promise 24" + name + ": 0 of none", () -> empty.lasts(0) ? 1 : 0);
        Checks.refused(empty, Checks.INDEX, "Promise 25" + name + ": 0 of none", () -> empty.partiesOf(0));
        Checks.refused(empty, Checks.INDEX, "Promise 26" + name + ": 0 of none", () -> empty.interest(0));
        lastOfSixty(Scenes.afterLoans(60), name);
    }

    private static void lastOfSixty(AlmsKernel full, String name) {
        Checks.dueNot("Promise 24, 'a loan': 59", full.lasts(59));
        Checks.due("Promise 25, 'a loan': 59", full.partiesOf(59), 1);
        Checks.due("Promise 26, 'a loan': 59", full.interest(59), 0);
        Checks.refused(full, Checks.INDEX, "Promise 24" + name + ": 60", () -> full.lasts(60) ? 1 : 0);
        Checks.refused(full, Checks.INDEX, "Promise 25" + name + ": 60", () -> full.partiesOf(60));
        Checks.refused(full, Checks.INDEX, "Promise 26" + name + ": 60", () -> full.interest(60));
    }

    private static void promise29Place() {
        AlmsKernel x = Scenes.busy();
        Checks.due("Promise 29, '0 for the one with the lowest track'", x.requestAt(0), 7);
        Checks.due("Promise 29, 'a request by the order of tracks': 1", x.requestAt(1), 31);
        Checks.due("Promise 29, 'a request by the order of tracks': the last", x.requestAt(2), 39);
        for (int place : new int[] {3, 4, 12, 39, 40, MAX}) {
            Checks.due("Promise 29, 'NONE if there are not so many': " + place, x.requestAt(place), AlmsKernel.NONE);
        }
        Checks.due("Promise 29, 'NONE if there are not so many': 0 of none", new AlmsKernel().requestAt(0), -1);
        noneOf(Checks.INDEX, "Promise 29, 'if place is below 0'", new int[] {-1, -2, MIN}, AlmsKernel::requestAt);
    }

    private static void firstOfSeveralExceptions() {
        String name = ", 'the one that its @throws lines name first': ";
        refused(Checks.INDEX, "Promise 2" + name + "no process, a wage of 10", x -> x.setWage(5, 10));
        refused(Checks.INDEX, "Promise 2" + name + "no process, a wage of -1", x -> x.setWage(-1, -1));
        AlmsKernel taken = Scenes.withFrames(0, 12);
        Checks.refused(taken, Checks.INDEX, "Promise 4" + name + "no process, no free frame", () -> taken.buy(5));
        refused(Checks.INDEX, "Promise 7" + name + "no page, and it waits", x -> x.touch(3, 8));
        refused(Checks.INDEX, "Promise 7" + name + "no page, and it sleeps", x -> x.touch(1, -1));
        AlmsKernel bare = new AlmsKernel();
        Checks.refused(bare, Checks.INDEX, "Promise 7" + name + "no page, and no way", () -> bare.touch(0, 8));
        AlmsKernel full = Scenes.afterLoans(60);
        Checks.refused(full, Checks.INDEX, "Promise 7" + name + "no page, and 60 loans", () -> full.touch(1, 8));
        AlmsKernel last = new AlmsKernel();
        Scenes.untilTick(last, 50000);
        for (int ticks : new int[] {0, -1, 201, MIN, MAX}) {
            Checks.refused(last, Checks.ARGUMENT, "Promise 9" + name + ticks + " ticks at the tick 50000",
                () -> last.advance(ticks));
        }
    }
}
