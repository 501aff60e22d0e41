/** Promises 1 to 4 and 19: a new object, setKind, setFormat, ban, isAllowed. */
final class KindTests {
    private KindTests() {
    }

    static void run() {
        newObject();
        setKind();
        setFormat();
        ban();
        isAllowed();
        allDecks();
    }

    private static void newObject() {
        Check.part("promise 1");
        Cardhouse house = new Cardhouse();
        Check.same("cards()", house.cards(), 0);
        Check.fails("printOf(0)", Check.INDEX, () -> house.printOf(0));
        Check.fails("isAllowed(0)", Check.INDEX, () -> house.isAllowed(0));
        Check.fails("isOpen(0)", Check.INDEX, () -> house.isOpen(0));
        Check.same("ring(0)", house.ring(0), Cardhouse.NONE);
        Check.same("trade()", house.trade(), 0);
        for (int kind = 0; kind < 16; kind++) {
            Check.same("wins", house.wins(kind), 0);
            Check.same("price", house.price(kind), 0);
            for (int collector = 0; collector < 6; collector++) {
                Check.same("has", house.has(collector, kind), 0);
            }
        }
        nothingIsBanned();
        objectsAreApart();
    }

    private static void nothingIsBanned() {
        for (int four = 0; four < 16; four += 4) {
            Cardhouse house = new Cardhouse();
            Builder.deckOf(house, 0, four, four + 1, four + 2, four + 3);
            Check.same("isAllowed of the kinds from " + four + " on", house.isAllowed(0), true);
        }
    }

    private static void objectsAreApart() {
        Cardhouse one = new Cardhouse();
        Cardhouse other = new Cardhouse();
        Builder.deckOf(one, 0, 0, 0, 1, 1);
        one.setKind(0, 9, 0);
        one.setFormat(5, 1);
        Check.same("cards() of another object", other.cards(), 0);
        Check.same("setKind of another object", other.setKind(0, 1, 0), 0);
        Builder.deckOf(other, 0, 0, 0, 1, 1);
        Check.same("isAllowed of another object", other.isAllowed(0), true);
    }

    private static void setKind() {
        Check.part("promise 2");
        Cardhouse house = new Cardhouse();
        for (int kind = 0; kind < 16; kind++) {
            Check.same("setKind at first", house.setKind(kind, kind % 10, kind % 4), 0);
        }
        for (int kind = 0; kind < 16; kind++) {
            Check.same("setKind then", house.setKind(kind, 9, 3), kind % 10);
        }
        Check.fails("setKind(-1, 0, 0)", Check.INDEX, () -> house.setKind(-1, 0, 0));
        Check.fails("setKind(16, 0, 0)", Check.INDEX, () -> house.setKind(16, 0, 0));
        Check.fails("setKind(16, 10, 4)", Check.INDEX, () -> house.setKind(16, 10, 4));
        Check.fails("setKind(0, -1, 0)", Check.ARGUMENT, () -> house.setKind(0, -1, 0));
        Check.fails("setKind(0, 10, 0)", Check.ARGUMENT, () -> house.setKind(0, 10, 0));
        Check.fails("setKind(0, 0, -1)", Check.ARGUMENT, () -> house.setKind(0, 0, -1));
        Check.fails("setKind(0, 0, 4)", Check.ARGUMENT, () -> house.setKind(0, 0, 4));
        Check.same("setKind behind those that threw", house.setKind(0, 0, 0), 9);
        triggerOfARefusedCallIsNotSet();
    }

    private static void triggerOfARefusedCallIsNotSet() {
        Cardhouse house = new Cardhouse();
        int[] strong = {1, 1, 2, 2};
        int[] weak = {0, 0, 3, 3};
        Builder.deckOf(house, 0, strong);
        Builder.deckOf(house, 1, weak);
        house.setKind(1, 5, 0);
        house.setKind(2, 5, 0);
        Check.fails("setKind(1, 10, 1)", Check.ARGUMENT, () -> house.setKind(1, 10, 1));
        Check.same("play by the trigger as it was", house.play(0, 1, 0, 0), 4);
    }

    private static void setFormat() {
        Check.part("promise 3");
        Cardhouse house = new Cardhouse();
        Check.same("setFormat without decks", house.setFormat(4, 2), 0);
        Builder.deckOf(house, 0, 0, 0, 1, 1);
        Builder.deckOf(house, 1, 2, 2, 2, 3);
        Builder.deckOf(house, 2, 4, 5, 6, 7, 8);
        Builder.deckOf(house, 3, 4, 4, 5, 5);
        Check.same("setFormat(4, 1)", house.setFormat(4, 1), 0);
        Check.same("setFormat(4, 2)", house.setFormat(4, 2), 2);
        Check.same("setFormat(4, 3)", house.setFormat(4, 3), 3);
        Check.same("setFormat(4, 4)", house.setFormat(4, 4), 3);
        Check.same("setFormat(5, 1)", house.setFormat(5, 1), 1);
        Check.same("setFormat(10, 1)", house.setFormat(10, 1), 0);
        Check.same("setFormat(5, 4)", house.setFormat(5, 4), 1);
        Check.fails("setFormat(3, 1)", Check.ARGUMENT, () -> house.setFormat(3, 1));
        Check.fails("setFormat(11, 1)", Check.ARGUMENT, () -> house.setFormat(11, 1));
        Check.fails("setFormat(4, 0)", Check.ARGUMENT, () -> house.setFormat(4, 0));
        Check.fails("setFormat(4, 5)", Check.ARGUMENT, () -> house.setFormat(4, 5));
        Check.same("isAllowed(2) behind those that threw", house.isAllowed(2), true);
        Check.same("isAllowed(0) behind those that threw", house.isAllowed(0), false);
    }

    private static void ban() {
        Check.part("promise 4");
        Cardhouse house = new Cardhouse();
        Builder.deckOf(house, 0, 0, 0, 1, 1);
        Builder.deckOf(house, 1, 1, 2, 3, 15);
        Check.same("ban(4, true)", house.ban(4, true), 2);
        Check.same("ban(0, true)", house.ban(0, true), 1);
        Check.same("ban(0, true) again", house.ban(0, true), 1);
        Check.same("ban(15, true)", house.ban(15, true), 0);
        Check.same("ban(0, false)", house.ban(0, false), 1);
        Check.same("ban(1, true)", house.ban(1, true), 0);
        Check.same("ban(15, false)", house.ban(15, false), 0);
        Check.same("ban(1, false)", house.ban(1, false), 2);
        Check.same("ban(1, false) again", house.ban(1, false), 2);
        Check.fails("ban(-1, true)", Check.INDEX, () -> house.ban(-1, true));
        Check.fails("ban(16, true)", Check.INDEX, () -> house.ban(16, true));
    }

    private static void isAllowed() {
        Check.part("promise 19");
        Cardhouse house = new Cardhouse();
        Builder.deckOf(house, 2, 0, 0, 1);
        Check.same("isAllowed with too few", house.isAllowed(0), false);
        house.add(0, house.print(1, 2));
        Check.same("isAllowed with just so many", house.isAllowed(0), true);
        house.add(0, house.print(2, 2));
        Check.same("isAllowed with too many", house.isAllowed(0), false);
        house.cut(0, 0);
        Check.same("isAllowed after a cut", house.isAllowed(0), true);
        house.ban(2, true);
        Check.same("isAllowed with a banned kind", house.isAllowed(0), false);
        house.ban(2, false);
        house.cut(0, 3);
        house.add(0, house.print(1, 2));
        Check.same("isAllowed with three of a kind", house.isAllowed(0), false);
        house.setFormat(4, 3);
        Check.same("isAllowed with three of a kind by the format", house.isAllowed(0), true);
        house.deck(1);
        Check.same("isAllowed without cards", house.isAllowed(1), false);
        Check.fails("isAllowed(-1)", Check.INDEX, () -> house.isAllowed(-1));
        Check.fails("isAllowed(2)", Check.INDEX, () -> house.isAllowed(2));
        cardsThatAreTradedAway();
        decksOfTen();
    }

    private static void cardsThatAreTradedAway() {
        Cardhouse house = new Cardhouse();
        Builder.deckOf(house, 0, 0, 1, 2, 3);
        house.print(4, 1);
        house.offer(3, 4);
        house.offer(4, 3);
        Check.same("isAllowed with an offered card", house.isAllowed(0), true);
        house.trade();
        Check.same("isAllowed with a card that is away", house.isAllowed(0), false);
        house.offer(3, 4);
        house.offer(4, 3);
        house.trade();
        Check.same("isAllowed with a card that is back", house.isAllowed(0), true);
    }

    private static void decksOfTen() {
        Cardhouse house = new Cardhouse();
        Builder.deckOf(house, 5, 0, 0, 0, 0, 1, 1, 1, 1, 2, 2);
        Check.same("setFormat(10, 3) and a deck with four", house.setFormat(10, 3), 0);
        Check.same("setFormat(10, 4) and a deck with four", house.setFormat(10, 4), 1);
        house.ban(2, true);
        Check.same("isAllowed with the last one banned", house.isAllowed(0), false);
    }

    private static void allDecks() {
        Check.part("promises 3 and 4");
        Cardhouse house = new Cardhouse();
        for (int deck = 0; deck < 12; deck++) {
            Builder.deckOf(house, deck % 6, 0, 1, 2, deck == 11 ? 4 : 3);
        }
        Check.same("setFormat(4, 1) with 12 decks", house.setFormat(4, 1), 12);
        Check.same("ban(3, true) with 12 decks", house.ban(3, true), 1);
        Check.same("ban(4, true) with 12 decks", house.ban(4, true), 0);
    }
}
