/** Promises 6 to 8: deck, add, cut. */
final class DeckTests {
    private DeckTests() {
    }

    static void run() {
        deck();
        add();
        addRefuses();
        cut();
    }

    private static void deck() {
        Check.part("promise 6");
        Cardhouse house = new Cardhouse();
        Check.fails("deck(-1)", Check.INDEX, () -> house.deck(-1));
        Check.fails("deck(6)", Check.INDEX, () -> house.deck(6));
        for (int deck = 0; deck < 12; deck++) {
            Check.same("deck", house.deck(deck % 6), deck);
        }
        Check.fails("deck(0) as the 13th", Check.STATE, () -> house.deck(0));
        Check.fails("deck(6) as the 13th", Check.INDEX, () -> house.deck(6));
        Check.fails("isAllowed(12)", Check.INDEX, () -> house.isAllowed(12));
        Check.fails("shuffled of a deck without cards", Check.INDEX, () -> house.shuffled(11, 0, 0));
        house.print(0, 5);
        Check.same("add to the last deck, whose owner is 5", house.add(11, 0), 1);
        Check.fails("add to a deck of another", Check.ARGUMENT, () -> house.add(10, 0));
    }

    private static void add() {
        Check.part("promise 7");
        Cardhouse house = new Cardhouse();
        house.deck(0);
        house.deck(0);
        for (int card = 0; card < 10; card++) {
            house.print(card % 3, 0);
            Check.same("add", house.add(0, card), card + 1);
        }
        Check.same("add to a second deck", house.add(1, 9), 1);
        Check.same("add to a second deck", house.add(1, 0), 2);
        for (int place = 0; place < 10; place++) {
            Check.same("the card at the front", house.cut(0, 0), place);
        }
        Check.same("the first one of the second deck", house.cut(1, 0), 9);
        Check.same("the second one of the second deck", house.cut(1, 0), 0);
        Check.same("add to a deck that was emptied", house.add(0, 4), 1);
    }

    private static void addRefuses() {
        Check.part("promise 7");
        Cardhouse house = new Cardhouse();
        house.deck(0);
        for (int card = 0; card < 11; card++) {
            house.print(0, 0);
        }
        house.print(0, 1);
        for (int card = 0; card < 9; card++) {
            house.add(0, card);
        }
        Check.fails("add(-1, 0)", Check.INDEX, () -> house.add(-1, 0));
        Check.fails("add(1, 0)", Check.INDEX, () -> house.add(1, 0));
        Check.fails("add(0, -1)", Check.INDEX, () -> house.add(0, -1));
        Check.fails("add(0, 12)", Check.INDEX, () -> house.add(0, 12));
        Check.fails("add of another's card", Check.ARGUMENT, () -> house.add(0, 11));
        Check.fails("add of the first card again", Check.ARGUMENT, () -> house.add(0, 0));
        Check.fails("add of the last card again", Check.ARGUMENT, () -> house.add(0, 8));
        Check.same("add of the tenth", house.add(0, 9), 10);
        Check.fails("add of the eleventh", Check.STATE, () -> house.add(0, 10));
        Check.fails("add of the tenth again", Check.ARGUMENT, () -> house.add(0, 9));
        Check.fails("add of another's card to a full deck", Check.ARGUMENT, () -> house.add(0, 11));
        Check.fails("add of no card to a full deck", Check.INDEX, () -> house.add(0, 12));
        Check.same("cut of the last one", house.cut(0, 9), 9);
        Check.same("add of the eleventh then", house.add(0, 10), 10);
    }

    private static void cut() {
        Check.part("promise 8");
        Cardhouse house = new Cardhouse();
        Builder.deckOf(house, 3, 0, 1, 2, 3, 4);
        house.deck(3);
        house.add(1, 2);
        Check.fails("cut(-1, 0)", Check.INDEX, () -> house.cut(-1, 0));
        Check.fails("cut(2, 0)", Check.INDEX, () -> house.cut(2, 0));
        Check.fails("cut(0, -1)", Check.INDEX, () -> house.cut(0, -1));
        Check.fails("cut(0, 5)", Check.INDEX, () -> house.cut(0, 5));
        Check.fails("cut(1, 1)", Check.INDEX, () -> house.cut(1, 1));
        Check.same("cut(0, 2)", house.cut(0, 2), 2);
        Check.fails("cut(0, 4) then", Check.INDEX, () -> house.cut(0, 4));
        Check.same("cut(0, 2) then", house.cut(0, 2), 3);
        Check.same("cut(0, 2) then", house.cut(0, 2), 4);
        Check.same("cut(0, 0)", house.cut(0, 0), 0);
        Check.same("cut(0, 0) then", house.cut(0, 0), 1);
        Check.fails("cut(0, 0) of none", Check.INDEX, () -> house.cut(0, 0));
        Check.same("cut(1, 0) of the deck beside it", house.cut(1, 0), 2);
        Check.same("the card stays in the collection", house.collectorOf(2), 3);
    }
}
