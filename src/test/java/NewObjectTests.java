/** Promise 1: a new object. */
final class NewObjectTests {
    private static final String NOTHING = "No cards, decks, offers; nothing is banned.";

    private NewObjectTests() {
    }

    static void run() {
        Check.sentence(1, NOTHING, NewObjectTests::noCards);
        Check.sentence(1, NOTHING, NewObjectTests::noDecks);
        Check.sentence(1, NOTHING, NewObjectTests::noOffers);
        Check.sentence(1, NOTHING, NewObjectTests::nothingIsBanned);
        Check.sentence(1, NOTHING, NewObjectTests::besideAnotherObject);
        Check.sentence(1, "A kind has a power, 0 to 9, 0 at first", NewObjectTests::powersAtFirst);
        Check.sentence(1, "and a trigger, 0 to 3, 0 at first", NewObjectTests::triggersAtFirst);
        Check.sentence(1, "The format tells how many cards a deck must have, 4 to 10, 4 at first",
            NewObjectTests::sizeAtFirst);
        Check.sentence(1, "and how many of one kind it may have at most, 1 to 4, 2 at first",
            NewObjectTests::mostAtFirst);
        Check.sentence(1, "`NONE = -1`: There is none.", () -> Check.same("NONE", Cardhouse.NONE, -1));
    }

    private static void noCards() {
        Cardhouse house = new Cardhouse();
        Check.same("cards()", house.cards(), 0);
        for (int kind = 0; kind < 16; kind++) {
            Check.same("wins(" + kind + ")", house.wins(kind), 0);
            Check.same("price(" + kind + ")", house.price(kind), 0);
            for (int collector = 0; collector < 6; collector++) {
                Check.same("has(" + collector + ", " + kind + ")", house.has(collector, kind), 0);
            }
        }
        Refused refused = new Refused(Cardhouse::new);
        refused.index("printOf(0)", other -> other.printOf(0));
        refused.index("collectorOf(0)", other -> other.collectorOf(0));
        refused.index("offer(0, 1)", other -> other.offer(0, 1));
        Check.same("print(7, 3), the first one", house.print(7, 3), 0);
    }

    private static void noDecks() {
        Refused refused = new Refused(Cardhouse::new);
        refused.index("add(0, 0)", house -> house.add(0, 0));
        refused.index("cut(0, 0)", house -> house.cut(0, 0));
        refused.index("play(0, 1, 0, 0)", house -> house.play(0, 1, 0, 0));
        refused.index("isAllowed(0)", house -> house.isAllowed(0));
        refused.index("shuffled(0, 0, 0)", house -> house.shuffled(0, 0, 0));
        refused.index("orders(0, 0, 1)", house -> house.orders(0, 0, 1));
        refused.index("ordersByAll(0, 0, 1)", house -> house.ordersByAll(0, 0, 1));
        Cardhouse house = new Cardhouse();
        Check.same("setFormat(4, 2)", house.setFormat(4, 2), 0);
        Check.same("ban(0, true)", house.ban(0, true), 0);
        Check.same("deck(3), the first one", house.deck(3), 0);
    }

    private static void noOffers() {
        Refused refused = new Refused(Cardhouse::new);
        refused.index("isOpen(0)", house -> house.isOpen(0));
        refused.index("takeBack(0)", house -> house.takeBack(0));
        Cardhouse house = new Cardhouse();
        Check.same("ring(0)", house.ring(0), Cardhouse.NONE);
        Check.same("trade()", house.trade(), 0);
        Check.same("the first offer", Houses.offerOf(house, 0, 0, 1), 0);
    }

    private static void nothingIsBanned() {
        for (int four = 0; four < 16; four += 4) {
            Cardhouse house = new Cardhouse();
            Houses.deckOf(house, 0, four, four + 1, four + 2, four + 3);
            Check.same("isAllowed of the kinds from " + four + " on", house.isAllowed(0), true);
        }
    }

    private static void besideAnotherObject() {
        Cardhouse one = new Cardhouse();
        Cardhouse other = new Cardhouse();
        Houses.deckOf(one, 0, 0, 0, 1, 1);
        Houses.offerOf(one, 0, 0, 1);
        one.setKind(0, 9, 1);
        one.ban(0, true);
        one.setFormat(5, 1);
        Check.same("cards() of another object", other.cards(), 0);
        Check.fails("isAllowed(0) of another object", Check.INDEX, () -> other.isAllowed(0));
        Check.fails("isOpen(0) of another object", Check.INDEX, () -> other.isOpen(0));
        Check.same("setKind of another object", other.setKind(0, 1, 0), 0);
        Houses.deckOf(other, 0, 0, 0, 1, 1);
        Check.same("isAllowed(0) of another object", other.isAllowed(0), true);
    }

    private static void powersAtFirst() {
        Cardhouse house = new Cardhouse();
        for (int kind = 0; kind < 16; kind++) {
            Check.same("setKind(" + kind + ", 9, 0)", house.setKind(kind, 9, 0), 0);
        }
        Cardhouse other = new Cardhouse();
        other.setKind(1, 1, 0);
        Houses.deckOf(other, 0, 0, 0, 2, 2);
        Houses.deckOf(other, 1, 1, 1, 3, 3);
        Check.same("play of the powers 0 and 1, and 0 and 0", other.play(0, 1, 0, 0), -2);
    }

    private static void triggersAtFirst() {
        for (int kind = 0; kind < 16; kind++) {
            int next = (kind + 1) % 16;
            String what = "of the kind " + kind;
            Cardhouse house = new Cardhouse();
            house.setFormat(4, 4);
            Houses.deckOf(house, 0, kind, kind, kind, kind);
            Houses.deckOf(house, 1, next, next, next, next);
            Check.same("play, nothing is gained by like rounds " + what, house.play(0, 1, 0, 0), 0);
            house.setKind(next, 1, 1);
            Check.same("play, nothing is kept from the other " + what, house.play(0, 1, 0, 0), -8);
            noMorePointAtFirst(kind, next);
        }
    }

    /** A card of the power 0 can win by what the card before it gained. */
    private static void noMorePointAtFirst(int kind, int next) {
        Cardhouse house = new Cardhouse();
        house.setFormat(4, 4);
        int opening = (kind + 2) % 16;
        house.setKind(opening, 0, 2);
        Houses.stackedDeckOf(house, 0, opening, kind, kind, kind);
        Houses.deckOf(house, 1, next, next, next, next);
        Check.same("play, a won round has one point of the kind " + kind, house.play(0, 1, 0, 0), 1);
    }

    private static void sizeAtFirst() {
        Cardhouse house = new Cardhouse();
        for (int size = 3; size <= 5; size++) {
            int deck = Houses.deckOfSize(house, 0, size);
            Check.same("isAllowed with " + size + " cards", house.isAllowed(deck), size == 4);
        }
    }

    private static void mostAtFirst() {
        Cardhouse house = new Cardhouse();
        Houses.deckOf(house, 0, 0, 0, 1, 2);
        Houses.deckOf(house, 0, 0, 0, 1, 1);
        Houses.deckOf(house, 0, 0, 0, 0, 1);
        Check.same("isAllowed with two of a kind", house.isAllowed(0), true);
        Check.same("isAllowed with two of each kind", house.isAllowed(1), true);
        Check.same("isAllowed with three of a kind", house.isAllowed(2), false);
    }
}
