/** Promises 10, 11 and 23: offer, takeBack, isOpen. */
final class OfferTests {
    private static final String OPEN =
        "It is open as long as it was neither taken back nor traded, and the card is still in that collection.";
    private static final String NO_SUCH_OFFER = "Throws `IndexOutOfBoundsException` if there is no such offer";
    private static final String NOT_OPEN = "Throws `IllegalStateException` if it is not open";

    private OfferTests() {
    }

    static void run() {
        Check.sentence(10, "`card`: the number of the card", OfferTests::firstAndLastCard);
        Check.sentence(10, "`wanted`: 0 to 15: the kind that is wanted for it", OfferTests::firstAndLastKind);
        Check.sentence(10, "Offers are numbered from 0 on, at most 40", OfferTests::fortyOffers);
        Check.sentence(10, "each is a card, by the collector who has it", OfferTests::byTheOneWhoHasIt);
        Check.sentence(10, "Throws `IndexOutOfBoundsException` if there is no such card or kind",
            OfferTests::noSuchCard);
        Check.sentence(10, "Throws `IndexOutOfBoundsException` if there is no such card or kind",
            OfferTests::noSuchKind);
        Check.sentence(10, "Throws `IllegalArgumentException` if it is of that kind", OfferTests::ofThatKind);
        Check.sentence(10, "Throws `IllegalStateException` if an open offer has the card", OfferTests::isOffered);
        Check.sentence(10, "Throws `IllegalStateException` if an open offer has the card",
            OfferTests::isOfferedNoMore);
        Check.sentence(10, "or 40 were made", OfferTests::noneBehindTheFortieth);
        Check.sentence(10, Check.FIRST_NAMED, OfferTests::whatOfferNamesFirst);
        Check.sentence(10, Check.CHANGES_NOTHING, OfferTests::refusedOfferIsNotMade);

        Check.sentence(11, "`offer`: its number", OfferTests::takeBackTheFirstAndTheLast);
        Check.sentence(11, "Returns the card.", OfferTests::cardStaysWhereItIs);
        Check.sentence(11, NO_SUCH_OFFER, OfferTests::noSuchOfferToTakeBack);
        Check.sentence(11, NOT_OPEN, OfferTests::takenBackBefore);
        Check.sentence(11, NOT_OPEN, OfferTests::tradedBefore);
        Check.sentence(11, Check.CHANGES_NOTHING, OfferTests::refusedTakeBackTakesNothing);

        Check.sentence(23, OPEN, OfferTests::openUntilTakenBack);
        Check.sentence(23, OPEN, OfferTests::openUntilTraded);
        Check.sentence(23, OPEN, OfferTests::openNoMoreWhenTheCardIsBack);
        Check.sentence(23, "`offer`: its number", OfferTests::firstAndLastOpen);
        Check.sentence(23, NO_SUCH_OFFER, OfferTests::noSuchOfferToBeOpen);
    }

    private static void firstAndLastCard() {
        Cardhouse house = Houses.allCards();
        Check.same("offer(0, 15)", house.offer(0, 15), 0);
        Check.same("offer(79, 0)", house.offer(79, 0), 1);
        isTradedBetween(house, 0, 79);
    }

    private static void isTradedBetween(Cardhouse house, int card, int other) {
        int collector = house.collectorOf(card);
        int otherCollector = house.collectorOf(other);
        Check.same("trade()", house.trade(), 2);
        Check.same("collectorOf(" + card + ")", house.collectorOf(card), otherCollector);
        Check.same("collectorOf(" + other + ")", house.collectorOf(other), collector);
    }

    private static void firstAndLastKind() {
        for (int wanted = 0; wanted < 16; wanted++) {
            Cardhouse house = new Cardhouse();
            int own = (wanted + 1) % 16;
            Check.same("offer for the kind " + wanted, Houses.offerOf(house, 0, own, wanted), 0);
            Check.same("offer of the kind " + wanted, Houses.offerOf(house, 1, wanted, own), 1);
            isTradedBetween(house, 0, 1);
        }
    }

    private static void fortyOffers() {
        Cardhouse house = new Cardhouse();
        for (int offer = 0; offer < 40; offer++) {
            Check.same("offer", Houses.offerOf(house, offer % 6, offer % 15, 15), offer);
        }
        for (int offer = 0; offer < 40; offer++) {
            Check.same("isOpen(" + offer + ")", house.isOpen(offer), true);
        }
    }

    private static void byTheOneWhoHasIt() {
        Cardhouse house = new Cardhouse();
        Houses.offerOf(house, 0, 0, 1);
        Houses.offerOf(house, 1, 1, 0);
        house.trade();
        // The collector 1 has the card 0 now: no ring, for the offer 3 is by the collector 1 too.
        house.offer(0, 2);
        Houses.offerOf(house, 1, 2, 0);
        Check.same("trade() between cards of one collector", house.trade(), 0);
        house.takeBack(3);
        Houses.offerOf(house, 0, 2, 0);
        Check.same("trade() with another collector", house.trade(), 2);
        Check.same("collectorOf(0)", house.collectorOf(0), 0);
        Check.same("collectorOf(3)", house.collectorOf(3), 1);
    }

    private static void noSuchCard() {
        Refused.noSuchCard("offer(.., 0)", (house, card) -> house.offer(card, 0));
        Refused all = new Refused(Houses::allCards);
        all.indexOutside(0, 79, "offer(.., 0), none made", (house, card) -> house.offer(card, 0));
    }


    private static void noSuchKind() {
        Refused.noSuchKind("offer(1, ..)", (house, kind) -> house.offer(1, kind));
        Refused.noSuchKind("offer(26, ..)", (house, kind) -> house.offer(26, kind));
    }

    private static void ofThatKind() {
        Refused refused = new Refused(Houses::allCards);
        for (int kind = 0; kind < 16; kind++) {
            int own = kind;
            refused.argument("offer(" + own + ", " + own + ")", house -> house.offer(own, own));
        }
        refused.argument("offer(79, 15)", house -> house.offer(79, 15));
    }

    private static void isOffered() {
        Refused refused = new Refused(Houses::busy);
        refused.state("offer(0, 3), the same again", house -> house.offer(0, 3));
        refused.state("offer(0, 15), for another kind", house -> house.offer(0, 15));
        refused.state("offer(21, 1), the last one", house -> house.offer(21, 1));
        Cardhouse house = Houses.busy();
        Check.same("offer(1, 3) of another card of the kind", house.offer(1, 3), 7);
    }

    private static void isOfferedNoMore() {
        Cardhouse house = Houses.busy();
        Check.same("offer(16, 0) of a card whose offer was taken back", house.offer(16, 0), 7);
        Check.fails("offer(16, 0) again", Check.STATE, () -> house.offer(16, 0));
        Check.same("offer(15, 0) of a card that was traded", house.offer(15, 0), 8);
        Check.fails("offer(15, 0) again", Check.STATE, () -> house.offer(15, 0));
        house.takeBack(7);
        Check.same("offer(16, 15) when it was taken back", house.offer(16, 15), 9);
    }

    private static void noneBehindTheFortieth() {
        Refused refused = new Refused(Houses::full);
        refused.state("offer(40, 9) as the 41st", house -> house.offer(40, 9));
        refused.state("offer(79, 0) as the 41st", house -> house.offer(79, 0));
        refused.state("offer(0, 1) as the 41st, and of a card that is offered", house -> house.offer(0, 1));
        Cardhouse house = new Cardhouse();
        house.print(3, 0);
        house.print(4, 0);
        for (int offer = 0; offer < 40; offer++) {
            Check.same("offer(0, 5)", house.offer(0, 5), offer);
            house.takeBack(offer);
        }
        Check.fails("offer(0, 5) as the 41st, none open", Check.STATE, () -> house.offer(0, 5));
        Check.fails("offer(1, 5) as the 41st, none open", Check.STATE, () -> house.offer(1, 5));
    }

    private static void whatOfferNamesFirst() {
        Refused full = new Refused(Houses::full);
        full.index("offer(80, 0), no such card, the 41st", house -> house.offer(80, 0));
        full.index("offer(-1, 0), no such card, the 41st", house -> house.offer(-1, 0));
        full.index("offer(40, 16), no such kind, the 41st", house -> house.offer(40, 16));
        full.index("offer(0, -1), no such kind, offered, the 41st", house -> house.offer(0, -1));
        full.argument("offer(40, 8), of that kind, the 41st", house -> house.offer(40, 8));
        Refused busy = new Refused(Houses::busy);
        busy.index("offer(0, 16), no such kind, offered", house -> house.offer(0, 16));
        busy.argument("offer(0, 0), of that kind, offered", house -> house.offer(0, 0));
    }

    private static void refusedOfferIsNotMade() {
        Cardhouse house = new Cardhouse();
        house.print(0, 0);
        house.print(1, 1);
        Check.fails("offer(0, 0)", Check.ARGUMENT, () -> house.offer(0, 0));
        Check.fails("offer(0, 16)", Check.INDEX, () -> house.offer(0, 16));
        Check.fails("offer(2, 0)", Check.INDEX, () -> house.offer(2, 0));
        Check.fails("isOpen(0)", Check.INDEX, () -> house.isOpen(0));
        Check.same("offer(0, 2)", house.offer(0, 2), 0);
        Check.fails("offer(0, 1)", Check.STATE, () -> house.offer(0, 1));
        Check.same("offer(1, 0)", house.offer(1, 0), 1);
        Check.same("trade(), for the kind 2 is still wanted", house.trade(), 0);
        Check.same("isOpen(0)", house.isOpen(0), true);
        Check.fails("isOpen(2)", Check.INDEX, () -> house.isOpen(2));
    }

    private static void takeBackTheFirstAndTheLast() {
        Cardhouse house = Houses.full();
        Check.same("takeBack(0)", house.takeBack(0), 0);
        Check.same("takeBack(39)", house.takeBack(39), 39);
        for (int offer = 0; offer < 40; offer++) {
            Check.same("isOpen(" + offer + ")", house.isOpen(offer), offer != 0 && offer != 39);
        }
        Check.same("ring(0), for it is none without the last", house.ring(0), Cardhouse.NONE);
    }

    private static void cardStaysWhereItIs() {
        Cardhouse house = Houses.busy();
        Check.same("takeBack(6)", house.takeBack(6), 21);
        Check.same("collectorOf(21)", house.collectorOf(21), 3);
        Check.same("takeBack(4), of the ring", house.takeBack(4), 5);
        Check.same("collectorOf(5)", house.collectorOf(5), 1);
        Check.same("trade(), for the ring is open", house.trade(), 0);
    }

    private static void noSuchOfferToTakeBack() {
        Refused.noSuchOffer("takeBack(..)", Cardhouse::takeBack);
    }

    private static void takenBackBefore() {
        Refused refused = new Refused(Houses::busy);
        refused.state("takeBack(2), taken back", house -> house.takeBack(2));
        Cardhouse house = Houses.busy();
        house.offer(16, 0);
        Check.fails("takeBack(2), its card offered again", Check.STATE, () -> house.takeBack(2));
        Check.same("takeBack(7) of the later offer", house.takeBack(7), 16);
        Check.fails("takeBack(7) again", Check.STATE, () -> house.takeBack(7));
    }

    private static void tradedBefore() {
        Refused refused = new Refused(Houses::busy);
        refused.state("takeBack(0), traded", house -> house.takeBack(0));
        refused.state("takeBack(1), traded", house -> house.takeBack(1));
        Cardhouse house = Houses.full();
        house.trade();
        for (int offer : new int[] {4, 39, 6, 5}) {
            Check.fails("takeBack(" + offer + "), traded", Check.STATE, () -> house.takeBack(offer));
        }
        Check.same("takeBack(38), not traded", house.takeBack(38), 38);
    }

    private static void refusedTakeBackTakesNothing() {
        Cardhouse house = Houses.busy();
        Check.fails("takeBack(7)", Check.INDEX, () -> house.takeBack(7));
        Check.fails("takeBack(-1)", Check.INDEX, () -> house.takeBack(-1));
        Check.fails("takeBack(2)", Check.STATE, () -> house.takeBack(2));
        for (int offer = 0; offer < 7; offer++) {
            Check.same("isOpen(" + offer + ")", house.isOpen(offer), offer > 2);
        }
        Check.same("trade()", house.trade(), 3);
    }

    private static void openUntilTakenBack() {
        Cardhouse house = new Cardhouse();
        Houses.offerOf(house, 0, 0, 1);
        Houses.offerOf(house, 1, 2, 1);
        Check.same("isOpen(0)", house.isOpen(0), true);
        Check.same("isOpen(1)", house.isOpen(1), true);
        house.takeBack(0);
        Check.same("isOpen(0), taken back", house.isOpen(0), false);
        Check.same("isOpen(1) beside it", house.isOpen(1), true);
        house.offer(0, 1);
        Check.same("isOpen(0), its card offered again", house.isOpen(0), false);
        Check.same("isOpen(2), the later offer", house.isOpen(2), true);
    }

    private static void openUntilTraded() {
        Cardhouse house = new Cardhouse();
        Houses.offerOf(house, 0, 0, 1);
        Houses.offerOf(house, 2, 0, 1);
        Houses.offerOf(house, 1, 1, 0);
        house.trade();
        Check.same("isOpen(0), traded", house.isOpen(0), false);
        Check.same("isOpen(2), traded", house.isOpen(2), false);
        Check.same("isOpen(1), not in the ring", house.isOpen(1), true);
    }

    private static void openNoMoreWhenTheCardIsBack() {
        Cardhouse house = new Cardhouse();
        Houses.offerOf(house, 0, 0, 1);
        Houses.offerOf(house, 1, 1, 0);
        house.trade();
        house.offer(0, 1);
        house.offer(1, 0);
        Check.same("isOpen(0), its card offered by another", house.isOpen(0), false);
        Check.same("trade() back", house.trade(), 2);
        Check.same("collectorOf(0)", house.collectorOf(0), 0);
        for (int offer = 0; offer < 4; offer++) {
            Check.same("isOpen(" + offer + "), its card back", house.isOpen(offer), false);
        }
        Check.same("trade() of none", house.trade(), 0);
    }

    private static void firstAndLastOpen() {
        Cardhouse house = Houses.full();
        Check.same("isOpen(0)", house.isOpen(0), true);
        Check.same("isOpen(39)", house.isOpen(39), true);
        house.trade();
        Check.same("isOpen(0)", house.isOpen(0), true);
        Check.same("isOpen(39), traded", house.isOpen(39), false);
    }

    private static void noSuchOfferToBeOpen() {
        Refused.noSuchOffer("isOpen(..)", Cardhouse::isOpen);
    }
}
