/** Promises 13 to 24: whatever is asked, all goes on as if it had not been. */
final class AskedTests {
    private static final String CHANGES_NOTHING = "are asked, which changes nothing.";

    private AskedTests() {
    }

    static void run() {
        Check.sentence(13, CHANGES_NOTHING, () -> changesNothing(Asked.PRINTS));
        Check.sentence(14, CHANGES_NOTHING, () -> changesNothing(Asked.PRINTS));
        Check.sentence(15, CHANGES_NOTHING, () -> changesNothing(Asked.COLLECTORS));
        Check.sentence(16, CHANGES_NOTHING, () -> changesNothing(Asked.COLLECTIONS));
        Check.sentence(17, CHANGES_NOTHING, () -> changesNothing(Asked.PRICES));
        Check.sentence(18, CHANGES_NOTHING, () -> changesNothing(Asked.PRICES));
        Check.sentence(19, CHANGES_NOTHING, () -> changesNothing(Asked.DECKS));
        Check.sentence(20, CHANGES_NOTHING, () -> changesNothing(Asked.DECKS));
        Check.sentence(21, CHANGES_NOTHING, () -> changesNothing(Asked.ORDERS));
        Check.sentence(22, CHANGES_NOTHING, () -> changesNothing(Asked.ORDERS));
        Check.sentence(23, CHANGES_NOTHING, () -> changesNothing(Asked.OFFERS));
        Check.sentence(24, CHANGES_NOTHING, () -> changesNothing(Asked.OFFERS));
    }

    private static void changesNothing(Asked asked) {
        for (Asked next : Asked.values()) {
            Cardhouse house = Houses.busy();
            Talk.of(asked, house);
            Talk.of(next, house).isLike(Talk.of(next, Houses.busy()), next + " asked after " + asked);
        }
        for (Sequel next : Sequel.values()) {
            Cardhouse house = Houses.busy();
            Talk.of(asked, house);
            Talk.of(next, house).isLike(Talk.of(next, Houses.busy()), next + " called after " + asked);
        }
    }
}
