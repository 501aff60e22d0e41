/** Promises 10, 11 and 23: offer, takeBack, isOpen. */
final class OfferTests {
    private OfferTests() {
    }

    static void run() {
        offer();
        fortyOffers();
        takeBack();
        isOpen();
    }

    private static void offer() {
        Check.part("promise 10");
        Cardhouse house = new Cardhouse();
        house.print(3, 0);
        house.print(3, 0);
        Check.fails("offer(-1, 0)", Check.INDEX, () -> house.offer(-1, 0));
        Check.fails("offer(2, 0)", Check.INDEX, () -> house.offer(2, 0));
        Check.fails("offer(0, -1)", Check.INDEX, () -> house.offer(0, -1));
        Check.fails("offer(0, 16)", Check.INDEX, () -> house.offer(0, 16));
        Check.fails("offer(0, 3)", Check.ARGUMENT, () -> house.offer(0, 3));
        Check.same("offer(0, 15)", house.offer(0, 15), 0);
        Check.fails("offer(0, 14)", Check.STATE, () -> house.offer(0, 14));
        Check.fails("offer(0, 3) of an offered card", Check.ARGUMENT, () -> house.offer(0, 3));
        Check.fails("offer(0, 16) of an offered card", Check.INDEX, () -> house.offer(0, 16));
        Check.same("offer(1, 15) of another card", house.offer(1, 15), 1);
        house.takeBack(0);
        Check.same("offer(0, 0) again", house.offer(0, 0), 2);
    }

    private static void fortyOffers() {
        Cardhouse house = new Cardhouse();
        house.print(3, 0);
        house.print(4, 0);
        for (int offer = 0; offer < 40; offer++) {
            Check.same("offer", house.offer(0, 5), offer);
            if (offer < 39) {
                house.takeBack(offer);
            }
        }
        Check.fails("offer as the 41st", Check.STATE, () -> house.offer(1, 5));
        Check.fails("offer of its own kind as the 41st", Check.ARGUMENT, () -> house.offer(1, 4));
        Check.same("isOpen(39)", house.isOpen(39), true);
        house.takeBack(39);
        Check.fails("offer as the 41st, none open", Check.STATE, () -> house.offer(0, 5));
        Check.fails("isOpen(40)", Check.INDEX, () -> house.isOpen(40));
    }

    private static void takeBack() {
        Check.part("promise 11");
        Cardhouse house = new Cardhouse();
        for (int card = 0; card < 4; card++) {
            house.print(card, card);
        }
        house.offer(3, 0);
        house.offer(2, 0);
        Check.fails("takeBack(-1)", Check.INDEX, () -> house.takeBack(-1));
        Check.fails("takeBack(2)", Check.INDEX, () -> house.takeBack(2));
        Check.same("takeBack(1)", house.takeBack(1), 2);
        Check.fails("takeBack(1) again", Check.STATE, () -> house.takeBack(1));
        Check.same("takeBack(0)", house.takeBack(0), 3);
        house.offer(0, 1);
        house.offer(1, 0);
        house.trade();
        Check.fails("takeBack of a traded offer", Check.STATE, () -> house.takeBack(2));
        Check.fails("takeBack of the other traded offer", Check.STATE, () -> house.takeBack(3));
        Check.same("collectorOf(3) stays", house.collectorOf(3), 3);
    }

    private static void isOpen() {
        Check.part("promise 23");
        Cardhouse house = new Cardhouse();
        Builder.offerOf(house, 0, 0, 1);
        Builder.offerOf(house, 1, 1, 0);
        Builder.offerOf(house, 2, 2, 0);
        Check.fails("isOpen(-1)", Check.INDEX, () -> house.isOpen(-1));
        Check.fails("isOpen(3)", Check.INDEX, () -> house.isOpen(3));
        Check.same("isOpen(0)", house.isOpen(0), true);
        Check.same("isOpen(2)", house.isOpen(2), true);
        house.takeBack(2);
        Check.same("isOpen(2) when taken back", house.isOpen(2), false);
        Check.same("isOpen(1) beside it", house.isOpen(1), true);
        house.trade();
        Check.same("isOpen(0) when traded", house.isOpen(0), false);
        Check.same("isOpen(1) when traded", house.isOpen(1), false);
        house.offer(0, 2);
        Check.same("isOpen(0) when its card is offered again", house.isOpen(0), false);
        Check.same("isOpen(3)", house.isOpen(3), true);
        Builder.offerOf(house, 3, 2, 0);
        house.trade();
        Check.same("collectorOf(0) away from 1", house.collectorOf(0), 3);
        Check.same("isOpen(0) as before", house.isOpen(0), false);
    }
}
