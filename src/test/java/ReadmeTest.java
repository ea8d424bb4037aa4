/** The example of README.md, call by call: each answers what the comment behind it says. */
public final class ReadmeTest {
    private ReadmeTest() {
    }

    public static void main(String[] args) {
        AlmsKernel kernel = new AlmsKernel();
        Checks.due("README: buy(0)", kernel.buy(0), 0);
        Checks.due("README: touch(1, 7)", kernel.touch(1, 7), 0);
        Checks.due("README: stateOf(1)", kernel.stateOf(1), AlmsKernel.WAITING);
        Checks.due("README: advance(15)", kernel.advance(15), 15);
        Checks.due("README: head()", kernel.head(), 15);
        Checks.due("README: stateOf(1)", kernel.stateOf(1), AlmsKernel.AWAKE);
        Checks.due("README: interest(0)", kernel.interest(0), 15);
        Checks.purses("README: the interest", kernel, 27, 5);
        Checks.due("README: touch(1, 7) again", kernel.touch(1, 7), AlmsKernel.NONE);
        Checks.due("README: payBack(0)", kernel.payBack(0), 0);
        Checks.due("README: pageIn(0)", kernel.pageIn(0), AlmsKernel.NONE);
        Checks.due("README: holder(0)", kernel.holder(0), 0);
        Checks.end();
    }
}
