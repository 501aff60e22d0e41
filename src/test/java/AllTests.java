/** Runs every test of the project. */
public final class AllTests {
    private AllTests() {
    }

    public static void main(String[] args) {
        ReadmeTests.run();
        FaceTests.run();
        NewObjectTests.run();
        KindTests.run();
        FormatTests.run();
        CardTests.run();
        PriceTests.run();
        DeckTests.run();
        ShuffleTests.run();
        OrderTests.run();
        GameTests.run();
        PlayTests.run();
        OfferTests.run();
        RingTests.run();
        AskedTests.run();
        ModelTests.run();
        System.out.println(Check.sentences() + " sentences tested");
        System.out.println(Check.passed() + " passed, " + Check.failed() + " failed");
        if (Check.failed() > 0 || Check.passed() == 0) {
            System.exit(1);
        }
    }
}
