/** Promises 6 to 8: deck, add, cut. */
final class DeckTests {
    private DeckTests() {
    }

    static void run() {
        Check.sentence(6, "`owner`: 0 to 5", DeckTests::firstAndLastOwner);
        Check.sentence(6, "Makes a deck without cards.", DeckTests::withoutCards);
        Check.sentence(6, "Decks are numbered from 0 on; at most 12 are made.", DeckTests::twelveDecks);
        Check.sentence(6, "Throws `IndexOutOfBoundsException` if there is no such collector", DeckTests::noSuchOwner);
        Check.sentence(6, "Throws `IllegalStateException` if 12 were made", DeckTests::noneBehindTheTwelfth);
        Check.sentence(6, Check.FIRST_NAMED, DeckTests::ownerIsNamedFirst);
        Check.sentence(6, Check.CHANGES_NOTHING, DeckTests::refusedDeckIsNotMade);

        Check.sentence(7, "Adds a card to a deck, behind the others.", DeckTests::behindTheOthers);
        Check.sentence(7, "up to 10 cards in their order, each once; a card can be in several decks",
            DeckTests::inSeveralDecks);
        Check.sentence(7, "`deck`: its number", DeckTests::addToTheFirstAndTheLastDeck);
        Check.sentence(7, "`card`: the number of the card", DeckTests::addTheFirstAndTheLastCard);
        Check.sentence(7, "Returns how many cards the deck has then.", DeckTests::fromOneToTen);
        Check.sentence(7, "Throws `IndexOutOfBoundsException` if there is no such deck or card",
            DeckTests::noSuchDeckToAddTo);
        Check.sentence(7, "Throws `IndexOutOfBoundsException` if there is no such deck or card",
            DeckTests::noSuchCardToAdd);
        Check.sentence(7, "Throws `IllegalArgumentException` if the card is not in the collection of the owner",
            DeckTests::notInTheCollection);
        Check.sentence(7, "or is in the deck", DeckTests::isInTheDeck);
        Check.sentence(7, "Throws `IllegalStateException` if the deck has 10 cards", DeckTests::noneBehindTheTenth);
        Check.sentence(7, Check.FIRST_NAMED, DeckTests::whatAddNamesFirst);
        Check.sentence(7, Check.CHANGES_NOTHING, DeckTests::refusedCardIsNotAdded);

        Check.sentence(8, "Takes a card out of a deck; those behind it move up.", DeckTests::movesUp);
        Check.sentence(8, "`place`: from 0", DeckTests::firstAndLastPlace);
        Check.sentence(8, "`deck`: its number", DeckTests::cutFromTheFirstAndTheLastDeck);
        Check.sentence(8, "Throws `IndexOutOfBoundsException` if there is no such deck",
            DeckTests::noSuchDeckToCutFrom);
        Check.sentence(8, "or it has not so many cards", DeckTests::notSoManyCards);
        Check.sentence(8, Check.CHANGES_NOTHING, DeckTests::refusedCutTakesNothing);
    }

    private static void firstAndLastOwner() {
        Cardhouse house = new Cardhouse();
        house.print(0, 0);
        house.print(0, 5);
        Check.same("deck(0)", house.deck(0), 0);
        Check.same("deck(5)", house.deck(5), 1);
        Check.same("add of a card of 0", house.add(0, 0), 1);
        Check.same("add of a card of 5", house.add(1, 1), 1);
    }

    private static void withoutCards() {
        Cardhouse house = Houses.busy();
        house.deck(0);
        Check.fails("shuffled(7, 0, 0)", Check.INDEX, () -> house.shuffled(7, 0, 0));
        Check.fails("cut(7, 0)", Check.INDEX, () -> house.cut(7, 0));
        Check.same("isAllowed(7)", house.isAllowed(7), false);
        Check.same("orders(7, 0, 10)", house.orders(7, 0, 10), 0);
        Check.same("add(7, 1), the first one", house.add(7, 1), 1);
    }

    private static void twelveDecks() {
        Cardhouse house = new Cardhouse();
        for (int owner = 0; owner < 6; owner++) {
            house.print(owner, owner);
        }
        for (int deck = 0; deck < 12; deck++) {
            Check.same("deck", house.deck((deck + 2) % 6), deck);
        }
        for (int deck = 0; deck < 12; deck++) {
            int owner = (deck + 2) % 6;
            int asked = deck;
            Check.same("add of the owner's card", house.add(deck, owner), 1);
            Check.fails("add of another's card", Check.ARGUMENT, () -> house.add(asked, (owner + 1) % 6));
        }
    }

    private static void noSuchOwner() {
        Refused.noSuchCollector("deck(..)", Cardhouse::deck);
    }

    private static void noneBehindTheTwelfth() {
        Refused refused = new Refused(Houses::full);
        refused.state("deck(0) as the 13th", house -> house.deck(0));
        refused.state("deck(5) as the 13th", house -> house.deck(5));
        Cardhouse house = new Cardhouse();
        for (int deck = 0; deck < 11; deck++) {
            house.deck(0);
        }
        Check.same("deck(0) as the 12th", house.deck(0), 11);
        Check.fails("deck(0) as the 13th", Check.STATE, () -> house.deck(0));
    }

    private static void ownerIsNamedFirst() {
        Refused refused = new Refused(Houses::full);
        refused.index("deck(6) as the 13th", house -> house.deck(6));
        refused.index("deck(-1) as the 13th", house -> house.deck(-1));
    }

    private static void refusedDeckIsNotMade() {
        Cardhouse house = new Cardhouse();
        house.deck(3);
        Check.fails("deck(6)", Check.INDEX, () -> house.deck(6));
        Check.fails("isAllowed(1)", Check.INDEX, () -> house.isAllowed(1));
        Check.same("deck(3)", house.deck(3), 1);
        for (int deck = 2; deck < 12; deck++) {
            house.deck(3);
        }
        Check.fails("deck(2) as the 13th", Check.STATE, () -> house.deck(2));
        Check.fails("isAllowed(12)", Check.INDEX, () -> house.isAllowed(12));
        house.print(0, 3);
        Check.same("add to the last one of 3", house.add(11, 0), 1);
    }

    private static void behindTheOthers() {
        Cardhouse house = new Cardhouse();
        house.deck(0);
        for (int card = 0; card < 10; card++) {
            house.print(card % 3, 0);
        }
        int[] order = {9, 0, 4, 8, 2, 7, 1, 6, 3, 5};
        for (int card : order) {
            house.add(0, card);
        }
        for (int card : order) {
            Check.same("the card at the front", house.cut(0, 0), card);
        }
    }

    private static void inSeveralDecks() {
        Cardhouse house = new Cardhouse();
        Houses.deckOf(house, 4, 0, 1);
        house.deck(4);
        house.deck(4);
        Check.same("add to a second deck", house.add(1, 1), 1);
        Check.same("add to a second deck", house.add(1, 0), 2);
        Check.same("add to a third deck", house.add(2, 1), 1);
        Check.same("cut from the second deck", house.cut(1, 0), 1);
        Check.same("cut from the first deck", house.cut(0, 1), 1);
        Check.same("cut from the third deck", house.cut(2, 0), 1);
        Check.same("what is left in the second deck", house.cut(1, 0), 0);
        Check.same("what is left in the first deck", house.cut(0, 0), 0);
    }

    private static void addToTheFirstAndTheLastDeck() {
        Cardhouse house = new Cardhouse();
        for (int deck = 0; deck < 12; deck++) {
            house.deck(1);
        }
        house.print(0, 1);
        house.print(1, 1);
        Check.same("add(0, 0)", house.add(0, 0), 1);
        Check.same("add(11, 1)", house.add(11, 1), 1);
        Check.same("cut(0, 0)", house.cut(0, 0), 0);
        Check.same("cut(11, 0)", house.cut(11, 0), 1);
    }

    private static void addTheFirstAndTheLastCard() {
        Cardhouse house = new Cardhouse();
        house.deck(1);
        for (int card = 0; card < 80; card++) {
            house.print(card % 16, 1);
        }
        Check.same("add(0, 79)", house.add(0, 79), 1);
        Check.same("add(0, 0)", house.add(0, 0), 2);
        Check.same("cut(0, 0)", house.cut(0, 0), 79);
        Check.same("cut(0, 0)", house.cut(0, 0), 0);
    }

    private static void fromOneToTen() {
        Cardhouse house = new Cardhouse();
        house.deck(0);
        for (int card = 0; card < 10; card++) {
            house.print(0, 0);
            Check.same("add", house.add(0, card), card + 1);
        }
        house.cut(0, 3);
        Check.same("add after a cut", house.add(0, 3), 10);
        for (int place = 0; place < 10; place++) {
            house.cut(0, 0);
        }
        Check.same("add to a deck that was emptied", house.add(0, 4), 1);
    }

    private static void noSuchDeckToAddTo() {
        Refused.noSuchDeck("add(.., 1)", (house, deck) -> house.add(deck, 1));
    }

    private static void noSuchCardToAdd() {
        Refused.noSuchCard("add(6, ..)", (house, card) -> house.add(6, card));
    }

    private static void notInTheCollection() {
        Refused refused = new Refused(Houses::busy);
        refused.argument("add(6, 5) of another's card", house -> house.add(6, 5));
        refused.argument("add(0, 26) of another's card", house -> house.add(0, 26));
        refused.argument("add(4, 17) of a card that was traded away", house -> house.add(4, 17));
        Cardhouse house = Houses.busy();
        Check.same("add(4, 15) for the one who has it now", house.add(4, 15), 6);
        Check.same("cut(4, 0)", house.cut(4, 0), 17);
        Check.fails("add(4, 17) again, which is away", Check.ARGUMENT, () -> house.add(4, 17));
        Check.same("add(3, 17) for the one who has it now", house.add(3, 17), 3);
        Check.same("cut(3, 0) of the card that is away", house.cut(3, 0), 15);
    }

    private static void isInTheDeck() {
        Refused refused = new Refused(Houses::busy);
        refused.argument("add(0, 0) of the first one", house -> house.add(0, 0));
        refused.argument("add(0, 2) of one between", house -> house.add(0, 2));
        refused.argument("add(0, 4) of the last one", house -> house.add(0, 4));
        Cardhouse house = Houses.busy();
        Check.same("cut(0, 0)", house.cut(0, 0), 0);
        Check.same("add(0, 0) when it is in the deck no more", house.add(0, 0), 5);
        Check.fails("add(0, 0) again", Check.ARGUMENT, () -> house.add(0, 0));
        Check.same("cut(0, 4) of the last one", house.cut(0, 4), 0);
        Check.same("add(0, 0) behind the last one", house.add(0, 0), 5);
    }

    private static void noneBehindTheTenth() {
        Refused refused = new Refused(Houses::full);
        refused.state("add(0, 60) as the 11th", house -> house.add(0, 60));
        refused.state("add(11, 65) as the 11th", house -> house.add(11, 65));
        Cardhouse house = Houses.full();
        house.cut(11, 9);
        Check.same("add(11, 65) as the 10th", house.add(11, 65), 10);
        Check.fails("add(11, 71) as the 11th", Check.STATE, () -> house.add(11, 71));
    }

    private static void whatAddNamesFirst() {
        Refused refused = new Refused(Houses::full);
        refused.index("add(12, 1), no such deck, another's card", house -> house.add(12, 1));
        refused.index("add(0, 80), no such card, a full deck", house -> house.add(0, 80));
        refused.index("add(0, -1), no such card, a full deck", house -> house.add(0, -1));
        refused.argument("add(0, 1), another's card, a full deck", house -> house.add(0, 1));
        refused.argument("add(0, 0), in the deck, which is full", house -> house.add(0, 0));
        refused.argument("add(0, 54), the last one in the deck, which is full", house -> house.add(0, 54));
    }

    private static void refusedCardIsNotAdded() {
        Cardhouse house = new Cardhouse();
        Houses.deckOf(house, 0, 0, 0, 1, 1);
        house.print(2, 1);
        Check.fails("add(0, 4)", Check.ARGUMENT, () -> house.add(0, 4));
        Check.fails("add(0, 3)", Check.ARGUMENT, () -> house.add(0, 3));
        Check.fails("add(0, 5)", Check.INDEX, () -> house.add(0, 5));
        Check.same("isAllowed(0) with four cards", house.isAllowed(0), true);
        Check.fails("shuffled(0, 0, 4)", Check.INDEX, () -> house.shuffled(0, 0, 4));
        for (int card = 5; card < 12; card++) {
            house.print(3, 0);
        }
        for (int card = 5; card < 11; card++) {
            house.add(0, card);
        }
        Check.fails("add(0, 11)", Check.STATE, () -> house.add(0, 11));
        Check.same("cut(0, 9)", house.cut(0, 9), 10);
        Check.same("cut(0, 8)", house.cut(0, 8), 9);
    }

    private static void movesUp() {
        Cardhouse house = new Cardhouse();
        Houses.deckOf(house, 3, 0, 1, 2, 3, 4);
        Check.same("cut(0, 2) of one between", house.cut(0, 2), 2);
        Check.same("cut(0, 2), the one behind it", house.cut(0, 2), 3);
        Check.same("cut(0, 2), the one behind that", house.cut(0, 2), 4);
        Check.same("cut(0, 0) of the first one", house.cut(0, 0), 0);
        Check.same("cut(0, 0), the one behind it", house.cut(0, 0), 1);
        Check.same("the card stays in the collection", house.collectorOf(2), 3);
        Check.same("has(3, 2)", house.has(3, 2), 1);
    }

    private static void firstAndLastPlace() {
        Cardhouse house = Houses.full();
        Check.same("cut(1, 9) of the tenth card", house.cut(1, 9), 55);
        Check.same("cut(1, 0)", house.cut(1, 0), 1);
        Check.same("cut(1, 7), the last one then", house.cut(1, 7), 49);
        for (int place = 0; place < 7; place++) {
            Check.same("cut(1, 0)", house.cut(1, 0), 7 + 6 * place);
        }
        Check.fails("cut(1, 0) of none", Check.INDEX, () -> house.cut(1, 0));
    }

    private static void cutFromTheFirstAndTheLastDeck() {
        Cardhouse house = Houses.full();
        Check.same("cut(0, 1)", house.cut(0, 1), 6);
        Check.same("cut(11, 1)", house.cut(11, 1), 11);
        Check.same("add(0, 60)", house.add(0, 60), 10);
        Check.same("add(11, 65)", house.add(11, 65), 10);
    }

    private static void noSuchDeckToCutFrom() {
        Refused.noSuchDeck("cut(.., 0)", (house, deck) -> house.cut(deck, 0));
    }

    private static void notSoManyCards() {
        Refused busy = new Refused(Houses::busy);
        busy.indexOutside(0, 4, "cut(0, ..) of five", (house, place) -> house.cut(0, place));
        busy.indexOutside(0, 1, "cut(3, ..) of two", (house, place) -> house.cut(3, place));
        busy.indexOutside(0, -1, "cut(6, ..) of none", (house, place) -> house.cut(6, place));
        Refused full = new Refused(Houses::full);
        full.indexOutside(0, 9, "cut(11, ..) of ten", (house, place) -> house.cut(11, place));
    }

    private static void refusedCutTakesNothing() {
        Cardhouse house = new Cardhouse();
        Houses.deckOf(house, 0, 0, 0, 1, 1);
        Check.fails("cut(0, 4)", Check.INDEX, () -> house.cut(0, 4));
        Check.fails("cut(0, -1)", Check.INDEX, () -> house.cut(0, -1));
        Check.fails("cut(1, 0)", Check.INDEX, () -> house.cut(1, 0));
        Check.same("isAllowed(0) with four cards", house.isAllowed(0), true);
        Check.same("cut(0, 3)", house.cut(0, 3), 3);
        Check.same("isAllowed(0) with three cards", house.isAllowed(0), false);
    }
}
