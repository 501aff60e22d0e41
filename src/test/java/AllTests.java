/** Runs every test of the project. */
public final class AllTests {
    private AllTests() {
    }

    public static void main(String[] args) {
        FaceTests.run();
        KindTests.run();
        CardTests.run();
        DeckTests.run();
        ShuffleTests.run();
        GameTests.run();
        OrderTests.run();
        OfferTests.run();
        RingTests.run();
        ModelTests.run();
        System.out.println(Check.passed() + " passed, " + Check.failed() + " failed");
        if (Check.failed() > 0 || Check.passed() == 0) {
            System.exit(1);
        }
    }
}
