import java.util.Arrays;

/** Promises 21 and 22: orders, ordersByAll. */
final class OrderTests {
    private static final String NO_SUCH_DECK_OR_KIND =
        "Throws `IndexOutOfBoundsException` if there is no such deck or kind";
    private static final String FIRST_OUT_OF_RANGE = "Throws `IllegalArgumentException` if first is out of range";

    /** One of both calls. */
    private interface Count {
        int of(Cardhouse house, int deck, int kind, int first);
    }

    private OrderTests() {
    }

    static void run() {
        Check.sentence(21, "in how many orders of the cards of a deck some card of a kind is among the first ones",
            () -> known(Cardhouse::orders));
        Check.sentence(21, "`first`: 1 to 10: how many cards are looked at, or all, if there are fewer",
            () -> lookedAt(Cardhouse::orders));
        Check.sentence(21, "`kind`: 0 to 15", () -> firstAndLastKind(Cardhouse::orders));
        Check.sentence(21, "`deck`: its number", OrderTests::firstAndLastDeck);
        Check.sentence(21, "Returns how many of all orders.", () -> emptyDeck(Cardhouse::orders));
        Check.sentence(21, "Returns how many of all orders.", () -> noneAndAllOfTheKind(Cardhouse::orders, 10));
        Check.sentence(21, "up to 10 cards in their order", OrderTests::tenCards);
        Check.sentence(21, NO_SUCH_DECK_OR_KIND, () -> noSuchDeck(Cardhouse::orders));
        Check.sentence(21, NO_SUCH_DECK_OR_KIND, () -> noSuchKind(Cardhouse::orders));
        Check.sentence(21, FIRST_OUT_OF_RANGE, () -> firstOutOfRange(Cardhouse::orders, 10));
        Check.sentence(21, Check.FIRST_NAMED, () -> deckAndKindAreNamedFirst(Cardhouse::orders));

        Check.sentence(22, "Returns the same, by going through all orders.", () -> known(Cardhouse::ordersByAll));
        Check.sentence(22, "Returns the same, by going through all orders.", OrderTests::bothAgree);
        Check.sentence(22, "`first`: 1 to 10", () -> lookedAt(Cardhouse::ordersByAll));
        Check.sentence(22, "`kind`: 0 to 15", () -> firstAndLastKind(Cardhouse::ordersByAll));
        Check.sentence(22, "`deck`: its number", OrderTests::firstAndLastDeckByAll);
        Check.sentence(22, "Returns how many of all orders.", () -> emptyDeck(Cardhouse::ordersByAll));
        Check.sentence(22, "Returns how many of all orders.", () -> noneAndAllOfTheKind(Cardhouse::ordersByAll, 7));
        Check.sentence(22, NO_SUCH_DECK_OR_KIND, () -> noSuchDeck(Cardhouse::ordersByAll));
        Check.sentence(22, NO_SUCH_DECK_OR_KIND, () -> noSuchKind(Cardhouse::ordersByAll));
        Check.sentence(22, FIRST_OUT_OF_RANGE, () -> firstOutOfRange(Cardhouse::ordersByAll, 7));
        Check.sentence(22, "Throws `IllegalStateException` if the deck has more than 7 cards",
            OrderTests::moreThanSevenCards);
        Check.sentence(22, Check.FIRST_NAMED, () -> deckAndKindAreNamedFirst(Cardhouse::ordersByAll));
        Check.sentence(22, Check.FIRST_NAMED, OrderTests::whatIsNamedBeforeTheSevenCards);
    }

    private static void known(Count count) {
        Cardhouse house = new Cardhouse();
        Houses.deckOf(house, 0, 1, 2, 2, 3);
        int[] ofOne = {6, 12, 18, 24};
        int[] ofTwo = {12, 20, 24, 24};
        for (int first = 1; first <= 4; first++) {
            Check.same("one of four, first " + first, count.of(house, 0, 1, first), ofOne[first - 1]);
            Check.same("two of four, first " + first, count.of(house, 0, 2, first), ofTwo[first - 1]);
            Check.same("none of four, first " + first, count.of(house, 0, 0, first), 0);
        }
        Cardhouse one = new Cardhouse();
        Houses.deckOf(one, 0, 1);
        Check.same("the one card there is", count.of(one, 0, 1, 1), 1);
        Check.same("another kind than the one card", count.of(one, 0, 2, 1), 0);
        Houses.deckOf(one, 0, 1, 2);
        Check.same("the first of two", count.of(one, 1, 1, 1), 1);
        Check.same("the last of two", count.of(one, 1, 2, 1), 1);
        Check.same("both of two looked at", count.of(one, 1, 2, 2), 2);
    }

    private static void lookedAt(Count count) {
        Cardhouse house = new Cardhouse();
        Houses.deckOf(house, 0, 1, 2, 3, 4, 5);
        for (int first = 1; first <= 10; first++) {
            Check.same("one of five, first " + first, count.of(house, 0, 3, first), 24 * Math.min(first, 5));
        }
    }

    private static void firstAndLastKind(Count count) {
        Cardhouse house = new Cardhouse();
        Houses.deckOf(house, 0, 0, 15, 15, 7);
        Check.same("the kind 0", count.of(house, 0, 0, 1), 6);
        Check.same("the kind 15", count.of(house, 0, 15, 1), 12);
        Check.same("the kind 1", count.of(house, 0, 1, 4), 0);
        Check.same("the kind 14", count.of(house, 0, 14, 4), 0);
    }

    private static void firstAndLastDeck() {
        Cardhouse house = Houses.full();
        // The kind 0 is there twice in the deck 0, and not in the deck 11, where the kind 5 is twice.
        Check.same("orders(0, 0, 1)", house.orders(0, 0, 1), 2 * 362880);
        Check.same("orders(11, 0, 1)", house.orders(11, 0, 1), 0);
        Check.same("orders(0, 5, 1)", house.orders(0, 5, 1), 0);
        Check.same("orders(11, 5, 1)", house.orders(11, 5, 1), 2 * 362880);
    }

    private static void firstAndLastDeckByAll() {
        Cardhouse house = new Cardhouse();
        Houses.deckOf(house, 0, 3, 4);
        for (int deck = 1; deck < 11; deck++) {
            house.deck(0);
        }
        Houses.deckOf(house, 0, 5, 6, 6);
        Check.same("ordersByAll(0, 3, 1)", house.ordersByAll(0, 3, 1), 1);
        Check.same("ordersByAll(0, 6, 1)", house.ordersByAll(0, 6, 1), 0);
        Check.same("ordersByAll(11, 3, 1)", house.ordersByAll(11, 3, 1), 0);
        Check.same("ordersByAll(11, 6, 1)", house.ordersByAll(11, 6, 1), 4);
    }

    /** Cards that are no longer in the collection of the owner are still in the deck. */
    private static void emptyDeck(Count count) {
        Cardhouse house = new Cardhouse();
        house.deck(0);
        for (int first = 1; first <= 10; first++) {
            Check.same("no cards, first " + first, count.of(house, 0, 0, first), 0);
        }
        Houses.deckOf(house, 0, 0, 1, 1);
        house.offer(0, 2);
        Houses.offerOf(house, 1, 2, 0);
        house.trade();
        Check.same("one of three, which is away", count.of(house, 1, 0, 1), 2);
        house.cut(1, 0);
        Check.same("none of two, when it was cut", count.of(house, 1, 0, 1), 0);
    }

    private static void noneAndAllOfTheKind(Count count, int most) {
        int all = 1;
        for (int size = 1; size <= most; size++) {
            all *= size;
            Cardhouse house = new Cardhouse();
            int[] kinds = new int[size];
            Arrays.fill(kinds, 6);
            Houses.deckOf(house, 0, kinds);
            for (int first : new int[] {1, size, 10}) {
                Check.same("all of " + size + ", first " + first, count.of(house, 0, 6, first), all);
                Check.same("none of " + size + ", first " + first, count.of(house, 0, 5, first), 0);
            }
        }
    }

    private static void tenCards() {
        Cardhouse house = new Cardhouse();
        Houses.deckOf(house, 0, 0, 1, 1, 1, 2, 2, 3, 4, 5, 6);
        Check.same("one of ten, first 1", house.orders(0, 0, 1), 362880);
        Check.same("one of ten, first 9", house.orders(0, 0, 9), 9 * 362880);
        Check.same("one of ten, first 10", house.orders(0, 0, 10), 3628800);
        Check.same("three of ten, first 2", house.orders(0, 1, 2), 3628800 - 7 * 6 * 40320);
        Check.same("three of ten, first 7", house.orders(0, 1, 7), 3628800 - 5040 * 6);
        Check.same("three of ten, first 8", house.orders(0, 1, 8), 3628800);
        Check.same("three of ten, first 10", house.orders(0, 1, 10), 3628800);
        Check.same("none of ten, first 10", house.orders(0, 9, 10), 0);
    }

    private static void bothAgree() {
        for (int size = 1; size <= 7; size++) {
            for (int ofKind = 0; ofKind <= size; ofKind++) {
                Cardhouse house = new Cardhouse();
                int[] kinds = new int[size];
                for (int place = 0; place < ofKind; place++) {
                    kinds[size - 1 - place] = 5;
                }
                Houses.deckOf(house, 4, kinds);
                for (int first = 1; first <= 10; first++) {
                    String what = ofKind + " of " + size + ", first " + first;
                    int due = counted(kinds, new boolean[size], 0, Math.min(first, size));
                    Check.same("orders of " + what, house.orders(0, 5, first), due);
                    Check.same("ordersByAll of " + what, house.ordersByAll(0, 5, first), due);
                }
            }
        }
    }

    /** Counts by looking at the front alone: what lies behind it comes in any order. */
    private static int counted(int[] kinds, boolean[] isUsed, int laid, int first) {
        if (laid == first) {
            return 0;
        }
        int found = 0;
        for (int place = 0; place < kinds.length; place++) {
            if (isUsed[place]) {
                continue;
            }
            if (kinds[place] == 5) {
                found += factorial(kinds.length - laid - 1);
                continue;
            }
            isUsed[place] = true;
            found += counted(kinds, isUsed, laid + 1, first);
            isUsed[place] = false;
        }
        return found;
    }

    private static int factorial(int number) {
        return number <= 1 ? 1 : number * factorial(number - 1);
    }

    private static void noSuchDeck(Count count) {
        Refused.noSuchDeck("the deck ..", (house, deck) -> count.of(house, deck, 0, 1));
    }

    private static void noSuchKind(Count count) {
        Refused.noSuchKind("the kind ..", (house, kind) -> count.of(house, 0, kind, 1));
        Refused.noSuchKind("without cards, the kind ..", (house, kind) -> count.of(house, 6, kind, 10));
    }

    private static void firstOutOfRange(Count count, int mostCards) {
        Refused refused = new Refused(Houses::busy);
        refused.argumentOutside(1, 10, "first ..", (house, first) -> count.of(house, 0, 0, first));
        refused.argumentOutside(1, 10, "without cards, first ..", (house, first) -> count.of(house, 6, 0, first));
        Cardhouse house = new Cardhouse();
        Houses.deckOfSize(house, 0, mostCards);
        Check.isTrue("first 1 is allowed", count.of(house, 0, 0, 1) > 0);
        Check.same("first 10 is allowed", count.of(house, 0, 0, 10), factorial(mostCards));
        Check.fails("first 0", Check.ARGUMENT, () -> count.of(house, 0, 0, 0));
        Check.fails("first 11", Check.ARGUMENT, () -> count.of(house, 0, 0, 11));
    }

    private static void deckAndKindAreNamedFirst(Count count) {
        Refused refused = new Refused(Houses::busy);
        refused.index("the deck 7, first 0", house -> count.of(house, 7, 0, 0));
        refused.index("the deck -1, first 11", house -> count.of(house, -1, 0, 11));
        refused.index("the kind 16, first 0", house -> count.of(house, 0, 16, 0));
        refused.index("the kind -1, first 11", house -> count.of(house, 0, -1, 11));
    }

    private static void moreThanSevenCards() {
        Refused refused = new Refused(Houses::full);
        refused.state("ordersByAll(0, 0, 1) of ten", house -> house.ordersByAll(0, 0, 1));
        refused.state("ordersByAll(11, 0, 10) of ten", house -> house.ordersByAll(11, 0, 10));
        Cardhouse house = new Cardhouse();
        Houses.deckOfSize(house, 0, 10);
        for (int size = 10; size >= 8; size--) {
            Check.fails("ordersByAll of " + size, Check.STATE, () -> house.ordersByAll(0, 0, 1));
            Check.same("orders of " + size, house.orders(0, 0, 1), factorial(size - 1));
            house.cut(0, size - 1);
        }
        Check.same("ordersByAll of seven, first 1", house.ordersByAll(0, 0, 1), 720);
        Check.same("ordersByAll of seven, first 10", house.ordersByAll(0, 0, 10), 5040);
        Check.same("the deck stays as it was", house.cut(0, 0), 0);
    }

    private static void whatIsNamedBeforeTheSevenCards() {
        Refused refused = new Refused(Houses::full);
        refused.index("ordersByAll(0, 16, 1) of ten", house -> house.ordersByAll(0, 16, 1));
        refused.index("ordersByAll(0, -1, 1) of ten", house -> house.ordersByAll(0, -1, 1));
        refused.argument("ordersByAll(0, 0, 0) of ten", house -> house.ordersByAll(0, 0, 0));
        refused.argument("ordersByAll(0, 0, 11) of ten", house -> house.ordersByAll(0, 0, 11));
    }
}
