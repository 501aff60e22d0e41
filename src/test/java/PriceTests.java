/** Promises 17 and 18: wins, price. */
final class PriceTests {
    private static final String NO_SUCH_KIND = "Throws `IndexOutOfBoundsException` if there is no such kind";

    private PriceTests() {
    }

    static void run() {
        Check.sentence(17, "`kind`: 0 to 15", PriceTests::firstAndLastKindWins);
        Check.sentence(17, "Returns how many wins a kind has.", PriceTests::winsFromNoneOn);
        Check.sentence(17, NO_SUCH_KIND, PriceTests::noSuchKindToWin);

        Check.sentence(18, "`kind`: 0 to 15", PriceTests::firstAndLastKindHaveAPrice);
        Check.sentence(18, "0 if none were.", PriceTests::noneWerePrinted);
        Check.sentence(18, "The price of a kind is 1 more than its wins, this times 100", PriceTests::priceByWins);
        Check.sentence(18, "divided by how many cards of it were printed, rounded down", PriceTests::roundedDown);
        Check.sentence(18, NO_SUCH_KIND, PriceTests::noSuchKindToPrice);
    }

    private static void firstAndLastKindWins() {
        Cardhouse house = new Cardhouse();
        house.setKind(0, 5, 0);
        house.setKind(15, 5, 0);
        Houses.deckOf(house, 0, 0, 0, 15, 15);
        Houses.deckOf(house, 1, 1, 1, 14, 14);
        house.play(0, 1, 0, 0);
        for (int kind = 0; kind < 16; kind++) {
            Check.same("wins(" + kind + ")", house.wins(kind), kind == 0 || kind == 15 ? 1 : 0);
        }
    }

    private static void winsFromNoneOn() {
        Cardhouse house = Houses.duel(5, 0, 4, 0);
        for (int game = 0; game < 200; game++) {
            Check.same("wins(0) after " + game, house.wins(0), game);
            house.play(0, 1, game, game);
        }
        Check.same("wins(0) after 200", house.wins(0), 200);
        Check.same("wins(1) of the other deck", house.wins(1), 0);
        Check.same("wins(2) of no deck", house.wins(2), 0);
        house.setKind(1, 6, 0);
        house.play(0, 1, 0, 0);
        Check.same("wins(0) when the other deck has won", house.wins(0), 200);
        Check.same("wins(1) when it has won", house.wins(1), 1);
    }

    private static void noSuchKindToWin() {
        Refused.noSuchKind("wins(..)", Cardhouse::wins);
    }

    private static void firstAndLastKindHaveAPrice() {
        Cardhouse house = new Cardhouse();
        house.print(0, 0);
        house.print(15, 0);
        house.print(15, 5);
        for (int kind = 0; kind < 16; kind++) {
            Check.same("price(" + kind + ")", house.price(kind), kind == 0 ? 100 : kind == 15 ? 50 : 0);
        }
    }

    private static void noneWerePrinted() {
        Cardhouse house = new Cardhouse();
        Check.same("price(3) of no card", house.price(3), 0);
        house.print(4, 0);
        Check.same("price(3) with a card of another kind", house.price(3), 0);
        house.print(3, 0);
        Check.same("price(3) of one card", house.price(3), 100);
    }

    private static void priceByWins() {
        Cardhouse house = new Cardhouse();
        house.setKind(1, 5, 0);
        Houses.deckOf(house, 0, 1, 2, 3, 4);
        Houses.deckOf(house, 1, 5, 6, 7, 8);
        for (int game = 0; game < 100; game++) {
            Check.same("price(1) with " + game + " wins", house.price(1), (game + 1) * 100);
            house.play(0, 1, game, 0);
        }
        Check.same("price(4) with 100 wins", house.price(4), 10100);
        Check.same("price(5) without a win", house.price(5), 100);
        Check.same("price(9) of none", house.price(9), 0);
    }

    private static void roundedDown() {
        Cardhouse house = Houses.duel(5, 0, 4, 0);
        int[] due = {25, 20, 16, 14, 12, 11, 10};
        for (int copies = 4; copies <= 10; copies++) {
            Check.same("price(0) of " + copies + " cards", house.price(0), due[copies - 4]);
            house.print(0, copies % 6);
        }
        for (int card = house.cards(); card < 80; card++) {
            house.print(0, 0);
        }
        // 76 cards: 100 by 76 is 1 and some, 200 by 76 is 2 and some.
        Check.same("price(0) of 76 cards", house.price(0), 1);
        house.play(0, 1, 0, 0);
        Check.same("price(0) of 76 cards with a win", house.price(0), 2);
        Check.same("price(1) of four cards without a win", house.price(1), 25);
        Cardhouse other = new Cardhouse();
        for (int card = 0; card < 80; card++) {
            other.print(6, 0);
        }
        Check.same("price(6) of 80 cards", other.price(6), 1);
        Check.same("price(7) when 80 of another kind were printed", other.price(7), 0);
        threeCardsAndTwoWins();
    }

    private static void threeCardsAndTwoWins() {
        Cardhouse house = new Cardhouse();
        house.setKind(1, 5, 0);
        Houses.deckOf(house, 0, 1, 1, 2, 2);
        Houses.deckOf(house, 1, 3, 3, 4, 4);
        Check.same("price(1) of two cards", house.price(1), 50);
        house.print(1, 4);
        Check.same("price(1) of three cards", house.price(1), 33);
        house.play(0, 1, 0, 0);
        Check.same("price(1) of three cards with a win", house.price(1), 66);
        house.play(0, 1, 1, 1);
        Check.same("price(1) of three cards with two wins", house.price(1), 100);
    }

    private static void noSuchKindToPrice() {
        Refused.noSuchKind("price(..)", Cardhouse::price);
    }
}
