import java.util.Random;
import java.util.function.IntSupplier;

/** Long runs of calls, drawn by fixed seeds, on the class and on the plain model: all they tell is the same. */
public final class RandomRunsTest {
    private static final int RUNS = 1200;
    private static final int CALLS = 512;
    private static final int[] ODD = {-1, 5, 8, 10, 12, 60, 201, Integer.MIN_VALUE, Integer.MAX_VALUE};
    private static final String[] REACHED = {
        "hit", "way 1, own", "way 1, borrowed", "way 2", "way 2, another page coming", "way 3, empty",
        "way 3, old", "way 3, of a sleeper", "way 3, equal purses", "way 3, three loans", "way 3, too poor",
        "way 4, own", "way 4, borrowed", "refused", "60 loans", "paid back", "above 50000", "put to sleep",
        "put to sleep, chosen dropped", "put to sleep, coming dropped", "put to sleep, own coming",
        "put to sleep, borrowed coming", "put to sleep with loans: 1", "put to sleep with loans: 2",
        "put to sleep with loans: 3", "interest for a sleeper", "alms", "woken with alms",
        "woken without alms", "equally near requests", "passed by another request", "bought while waiting",
        "dropped in a lent frame", "dropped of a sleeper",
    };

    private final Random random;
    private final AlmsKernel kernel = new AlmsKernel();
    private final PlainKernel model = new PlainKernel();
    private final int rich;
    private final int longest;
    private final int touching;

    private RandomRunsTest(int seed) {
        random = new Random(seed);
        rich = random.nextInt(5);
        longest = random.nextInt(10) == 0 ? 200 : random.nextInt(3) == 0 ? 30 : 4;
        touching = 1 + random.nextInt(60);
    }

    public static void main(String[] args) {
        for (int seed = 0; seed < RUNS; seed++) {
            new RandomRunsTest(seed).run("run " + seed);
        }
        manyTicks();
        for (String event : REACHED) {
            Checks.due("runs reached '" + event + "'", PlainKernel.EVENTS.getOrDefault(event, 0) > 0);
        }
        Checks.end();
    }

    private static void manyTicks() {
        RandomRunsTest test = new RandomRunsTest(RUNS);
        for (int i = 0; i < 250; i++) {
            test.call("to the last tick " + i, 20, 0, 200);
            test.call("to the last tick " + i, 8 + i % 9, i % 5, i % 8);
        }
        test.call("past the last tick", 20, 0, 200);
        test.call("past the last tick", 20, 0, 1);
    }

    private void run(String name) {
        for (int i = 0; i < CALLS; i++) {
            int kind = random.nextInt(26 + touching);
            call(name + " call " + i, kind, number(5 + random.nextInt(8)), number(8));
        }
    }

    private int number(int below) {
        return random.nextInt(60) == 0 ? ODD[random.nextInt(ODD.length)] : random.nextInt(below);
    }

    private void call(String name, int kind, int a, int b) {
        switch (kind) {
            case 0: case 1:
                // One rich process makes the runs in which the others live on loans and alms.
                int wage = a == rich ? 9 - b % 4 : b % 2;
                pair(name + " setWage " + a + " " + wage, () -> kernel.setWage(a, wage), () -> model.setWage(a, wage));
                break;
            case 2:
                pair(name + " setWage " + a + " " + b, () -> kernel.setWage(a, b), () -> model.setWage(a, b));
                break;
            case 3:
                pair(name + " setRate " + b, () -> kernel.setRate(b), () -> model.setRate(b));
                break;
            case 4: case 5: case 6:
                pair(name + " buy " + a, () -> kernel.buy(a), () -> model.buy(a));
                break;
            case 7:
                pair(name + " buy the rich", () -> kernel.buy(rich), () -> model.buy(rich));
                break;
            case 8:
                pair(name + " sell " + a, () -> kernel.sell(a), () -> model.sell(a));
                break;
            case 9:
                pair(name + " drop " + a, () -> kernel.drop(a), () -> model.drop(a));
                break;
            case 10:
                int some = a + kernel.loans() - 5;
                pair(name + " payBack " + some, () -> kernel.payBack(some), () -> model.payBack(some));
                break;
            case 11:
                readAtRandom(name, a);
                break;
            case 20: case 21: case 22: case 23: case 24: case 25:
                int ticks = b == 200 || random.nextInt(40) == 0 ? b : 1 + random.nextInt(longest);
                pair(name + " advance " + ticks, () -> kernel.advance(ticks), () -> model.advance(ticks));
                break;
            default:
                int who = a >= 5 && a < 12 ? a % 5 : a;
                pair(name + " touch " + who + " " + b, () -> kernel.touch(who, b), () -> model.touch(who, b));
                break;
        }
        Checks.due(name + " the state", Checks.snapshot(kernel), model.snapshot());
    }

    /** What the snapshot does not ask: the readers of loans and requests with numbers out of range. */
    private void readAtRandom(String name, int a) {
        pair(name + " holderByLog " + a, () -> kernel.holderByLog(a), () -> model.holderByLog(a));
        pair(name + " lasts " + a, () -> kernel.lasts(a) ? 1 : 0, () -> model.lasts(a));
        pair(name + " partiesOf " + a, () -> kernel.partiesOf(a), () -> model.partiesOf(a));
        pair(name + " interest " + a, () -> kernel.interest(a), () -> model.interest(a));
        pair(name + " requestAt " + a, () -> kernel.requestAt(a), () -> model.requestAt(a));
    }

    private static void pair(String what, IntSupplier call, IntSupplier due) {
        Checks.due(what, Checks.answer(call), Checks.answer(due));
    }
}
