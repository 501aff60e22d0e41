/** Promises 12 and 24: trade, ring. */
final class RingTests {
    private RingTests() {
    }

    static void run() {
        Check.part("promises 12 and 24");
        ringOfTwo();
        ringOfThree();
        ringOfFour();
        noRingOfFive();
        fewestFirst();
        lowerNumbersFirst();
        differentCollectors();
        fortyOffers();
        wrongInputs();
    }

    private static void isRing(Cardhouse house, int... due) {
        for (int place = 0; place < 6; place++) {
            int offer = place < due.length ? due[place] : Cardhouse.NONE;
            Check.same("ring(" + place + ")", house.ring(place), offer);
        }
    }

    private static void ringOfTwo() {
        Cardhouse house = new Cardhouse();
        Builder.offerOf(house, 0, 0, 1);
        Builder.offerOf(house, 1, 2, 0);
        isRing(house);
        Check.same("trade() without a ring", house.trade(), 0);
        Builder.offerOf(house, 2, 1, 0);
        isRing(house, 0, 2);
        isRing(house, 0, 2);
        Check.same("trade()", house.trade(), 2);
        Check.same("collectorOf(0)", house.collectorOf(0), 2);
        Check.same("collectorOf(2)", house.collectorOf(2), 0);
        Check.same("collectorOf(1)", house.collectorOf(1), 1);
        isRing(house);
        Check.same("trade() again", house.trade(), 0);
        Check.same("isOpen(1)", house.isOpen(1), true);
        Check.same("cards() stays", house.cards(), 3);
        Check.same("printOf(0) stays", house.printOf(0), 1);
    }

    /** The card of an offer goes to the one who wants its kind. */
    private static void ringOfThree() {
        Cardhouse house = new Cardhouse();
        Builder.offerOf(house, 0, 0, 1);
        Builder.offerOf(house, 1, 1, 2);
        Builder.offerOf(house, 2, 2, 0);
        isRing(house, 0, 2, 1);
        Check.same("trade()", house.trade(), 3);
        Check.same("collectorOf(0)", house.collectorOf(0), 2);
        Check.same("collectorOf(1)", house.collectorOf(1), 0);
        Check.same("collectorOf(2)", house.collectorOf(2), 1);
        for (int offer = 0; offer < 3; offer++) {
            Check.same("isOpen", house.isOpen(offer), false);
        }
        isRing(house);
    }

    private static void ringOfFour() {
        Cardhouse house = new Cardhouse();
        Builder.offerOf(house, 5, 9, 8);
        Builder.offerOf(house, 4, 7, 9);
        Builder.offerOf(house, 3, 8, 6);
        isRing(house);
        Builder.offerOf(house, 2, 6, 7);
        isRing(house, 0, 1, 3, 2);
        Check.same("trade()", house.trade(), 4);
        int[] due = {4, 2, 5, 3};
        for (int card = 0; card < 4; card++) {
            Check.same("collectorOf(" + card + ")", house.collectorOf(card), due[card]);
        }
        isRing(house);
    }

    private static void noRingOfFive() {
        Cardhouse house = new Cardhouse();
        for (int i = 0; i < 5; i++) {
            Builder.offerOf(house, i, i, (i + 4) % 5);
        }
        isRing(house);
        Check.same("trade() of five", house.trade(), 0);
    }

    private static void fewestFirst() {
        Cardhouse house = new Cardhouse();
        Builder.offerOf(house, 0, 0, 3);
        Builder.offerOf(house, 1, 1, 0);
        Builder.offerOf(house, 2, 2, 1);
        Builder.offerOf(house, 3, 3, 2);
        isRing(house, 0, 1, 2, 3);
        Builder.offerOf(house, 2, 5, 4);
        Builder.offerOf(house, 3, 6, 5);
        Builder.offerOf(house, 4, 4, 6);
        isRing(house, 4, 5, 6);
        Builder.offerOf(house, 4, 8, 7);
        Builder.offerOf(house, 5, 7, 8);
        isRing(house, 7, 8);
        Check.same("trade() of two", house.trade(), 2);
        isRing(house, 4, 5, 6);
        Check.same("trade() of three", house.trade(), 3);
        isRing(house, 0, 1, 2, 3);
        Check.same("trade() of four", house.trade(), 4);
        Check.same("trade() of none", house.trade(), 0);
    }

    private static void lowerNumbersFirst() {
        Cardhouse house = new Cardhouse();
        Builder.offerOf(house, 0, 0, 1);
        Builder.offerOf(house, 1, 2, 0);
        Builder.offerOf(house, 2, 2, 0);
        Builder.offerOf(house, 3, 1, 2);
        Builder.offerOf(house, 4, 1, 2);
        // 0 gives to 1 or 2, these to 3 or 4, and these to 0.
        isRing(house, 0, 1, 3);
        house.takeBack(3);
        isRing(house, 0, 1, 4);
        house.takeBack(1);
        isRing(house, 0, 2, 4);
        Builder.offerOf(house, 5, 2, 1);
        // 4 gives to 5, and 5 to 4.
        isRing(house, 4, 5);
        Builder.offerOf(house, 2, 1, 0);
        isRing(house, 0, 6);
        house.takeBack(0);
        isRing(house, 4, 5);
    }

    private static void differentCollectors() {
        Cardhouse house = new Cardhouse();
        Builder.offerOf(house, 0, 0, 1);
        Builder.offerOf(house, 0, 1, 0);
        isRing(house);
        // 0, 2, 3 would have the collector 0 at its ends, 0, 2, 3, 4 the collector 1 twice.
        Builder.offerOf(house, 1, 5, 0);
        Builder.offerOf(house, 0, 1, 5);
        isRing(house);
        Builder.offerOf(house, 1, 1, 6);
        Builder.offerOf(house, 2, 6, 5);
        isRing(house);
        Builder.offerOf(house, 3, 1, 6);
        isRing(house, 0, 2, 5, 6);
    }

    private static void fortyOffers() {
        Cardhouse house = new Cardhouse();
        for (int offer = 0; offer < 39; offer++) {
            Builder.offerOf(house, offer % 5, offer % 13, offer % 13 + 1);
        }
        isRing(house);
        Check.same("trade() of 39 offers", house.trade(), 0);
        Builder.offerOf(house, 5, 3, 0);
        // A card goes to one who has the kind below it; the last offer has the kind 3, and wants the kind 0.
        isRing(house, 0, 39, 2, 1);
        house.takeBack(39);
        isRing(house);
    }

    private static void wrongInputs() {
        Cardhouse house = new Cardhouse();
        Check.fails("ring(-1) of none", Check.INDEX, () -> house.ring(-1));
        Check.same("ring(2147483647)", house.ring(2147483647), Cardhouse.NONE);
        Builder.offerOf(house, 0, 0, 1);
        Builder.offerOf(house, 1, 1, 0);
        Check.fails("ring(-1)", Check.INDEX, () -> house.ring(-1));
        Check.fails("ring(-2147483648)", Check.INDEX, () -> house.ring(-2147483648));
        Check.same("ring(2147483647) of two", house.ring(2147483647), Cardhouse.NONE);
    }
}
