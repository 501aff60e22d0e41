/** Promises 12 and 24: trade, ring. */
final class RingTests {
    private static final String TWO_TO_FOUR = "A ring is 2 to 4 open offers of different collectors";
    private static final String LOWER_NUMBERS =
        "the one with the lower numbers first at the first place at which they differ";

    private RingTests() {
    }

    static void run() {
        Check.sentence(12, TWO_TO_FOUR, RingTests::ringOfTwo);
        Check.sentence(12, TWO_TO_FOUR, RingTests::ringOfThree);
        Check.sentence(12, TWO_TO_FOUR, RingTests::ringOfFour);
        Check.sentence(12, TWO_TO_FOUR, RingTests::noRingOfFiveOrSix);
        Check.sentence(12, TWO_TO_FOUR, RingTests::openOffersAlone);
        Check.sentence(12, TWO_TO_FOUR, RingTests::differentCollectors);
        Check.sentence(12, "each of which can give to the next one, and the last one to the first one",
            RingTests::closesAtItsEnd);
        Check.sentence(12, "each card goes to the collector of the next offer; all its offers are traded",
            RingTests::cardsGoToTheNext);
        Check.sentence(12, "The first ring is the one with the fewest offers", RingTests::fewestFirst);
        Check.sentence(12, "0 if there is no ring.", RingTests::tradeWithoutARing);
        Check.sentence(12, "Offers are numbered from 0 on, at most 40", RingTests::fortyOffers);

        Check.sentence(24, "`place`: from 0, from the offer with the lowest number on", RingTests::lowestOnward);
        Check.sentence(24, LOWER_NUMBERS, RingTests::differAtTheFirstPlace);
        Check.sentence(24, LOWER_NUMBERS, RingTests::differAtTheSecondPlace);
        Check.sentence(24, LOWER_NUMBERS, RingTests::differAtTheThirdPlace);
        Check.sentence(24, LOWER_NUMBERS, RingTests::differAtTheFourthPlace);
        Check.sentence(24, LOWER_NUMBERS, RingTests::lowerNumbersThatDoNotClose);
        Check.sentence(24, "NONE if there is no ring", RingTests::noneWithoutARing);
        Check.sentence(24, "or it has not so many", RingTests::noneBehindTheLast);
        Check.sentence(24, "Throws `IndexOutOfBoundsException` if place is below 0", RingTests::placeBelowNone);
        Check.sentence(24, "are asked, which changes nothing.", RingTests::askedTwice);
    }

    private static void isRing(Cardhouse house, int... due) {
        for (int place = 0; place < 6; place++) {
            int offer = place < due.length ? due[place] : Cardhouse.NONE;
            Check.same("ring(" + place + ")", house.ring(place), offer);
        }
    }

    /** Each offer gives its own number as a kind, and wants that of the one before it. */
    private static Cardhouse circleOf(int size) {
        Cardhouse house = new Cardhouse();
        for (int i = 0; i < size; i++) {
            Houses.offerOf(house, i, i, (i + size - 1) % size);
        }
        return house;
    }

    private static void ringOfTwo() {
        Cardhouse house = new Cardhouse();
        Houses.offerOf(house, 0, 0, 1);
        Houses.offerOf(house, 1, 2, 0);
        isRing(house);
        Check.same("trade() without a ring", house.trade(), 0);
        Houses.offerOf(house, 2, 1, 0);
        isRing(house, 0, 2);
        Check.same("trade()", house.trade(), 2);
        Check.same("collectorOf(0)", house.collectorOf(0), 2);
        Check.same("collectorOf(2)", house.collectorOf(2), 0);
        Check.same("collectorOf(1)", house.collectorOf(1), 1);
        isRing(house);
        Check.same("trade() again", house.trade(), 0);
    }

    private static void ringOfThree() {
        Cardhouse house = circleOf(3);
        isRing(house, 0, 1, 2);
        Check.same("trade()", house.trade(), 3);
        for (int card = 0; card < 3; card++) {
            Check.same("collectorOf(" + card + ")", house.collectorOf(card), (card + 1) % 3);
        }
        isRing(house);
    }

    private static void ringOfFour() {
        Cardhouse house = new Cardhouse();
        Houses.offerOf(house, 5, 9, 8);
        Houses.offerOf(house, 4, 7, 9);
        Houses.offerOf(house, 3, 8, 6);
        isRing(house);
        Houses.offerOf(house, 2, 6, 7);
        isRing(house, 0, 1, 3, 2);
        Check.same("trade()", house.trade(), 4);
        int[] due = {4, 2, 5, 3};
        for (int card = 0; card < 4; card++) {
            Check.same("collectorOf(" + card + ")", house.collectorOf(card), due[card]);
        }
        isRing(house);
    }

    private static void noRingOfFiveOrSix() {
        for (int size = 2; size <= 6; size++) {
            Cardhouse house = circleOf(size);
            Check.same("trade() of a circle of " + size, house.trade(), size <= 4 ? size : 0);
            for (int offer = 0; offer < size; offer++) {
                Check.same("isOpen(" + offer + ") of " + size, house.isOpen(offer), size > 4);
                Check.same("collectorOf(" + offer + ") of " + size, house.collectorOf(offer),
                    size > 4 ? offer : (offer + 1) % size);
            }
        }
    }

    private static void openOffersAlone() {
        for (int away = 0; away < 4; away++) {
            Cardhouse house = circleOf(4);
            house.takeBack(away);
            isRing(house);
            Check.same("trade() with an offer taken back", house.trade(), 0);
            house.offer(away, (away + 3) % 4);
            Check.same("trade() with its card offered again", house.trade(), 4);
        }
        Cardhouse house = circleOf(2);
        house.trade();
        Houses.offerOf(house, 4, 1, 0);
        Houses.offerOf(house, 5, 0, 15);
        isRing(house);
        Check.same("trade() with an offer that was traded", house.trade(), 0);
    }

    private static void differentCollectors() {
        Cardhouse house = new Cardhouse();
        Houses.offerOf(house, 0, 0, 1);
        Houses.offerOf(house, 0, 1, 0);
        isRing(house);
        // 0, 2, 3 would have the collector 0 at its ends, 0, 2, 5, 4 the collector 1 twice.
        Houses.offerOf(house, 1, 5, 0);
        Houses.offerOf(house, 0, 1, 5);
        isRing(house);
        Houses.offerOf(house, 1, 1, 6);
        Houses.offerOf(house, 2, 6, 5);
        isRing(house);
        Check.same("trade()", house.trade(), 0);
        Houses.offerOf(house, 3, 1, 6);
        isRing(house, 0, 2, 5, 6);
        Check.same("trade() of the collectors 0, 1, 2 and 3", house.trade(), 4);
        eachPairOfCollectors();
    }

    /** A circle of four in which two offers have the same collector is no ring. */
    private static void eachPairOfCollectors() {
        for (int one = 0; one < 4; one++) {
            for (int other = one + 1; other < 4; other++) {
                Cardhouse house = new Cardhouse();
                for (int i = 0; i < 4; i++) {
                    Houses.offerOf(house, i == other ? one : i, i, (i + 3) % 4);
                }
                Check.same("trade() with one collector at " + one + " and " + other, house.trade(), 0);
            }
        }
    }

    private static void closesAtItsEnd() {
        Cardhouse house = new Cardhouse();
        Houses.offerOf(house, 0, 0, 9);
        Houses.offerOf(house, 1, 1, 0);
        Houses.offerOf(house, 2, 2, 1);
        Houses.offerOf(house, 3, 3, 2);
        // 0 gives to 1, 1 to 2, 2 to 3, and 3 to none.
        isRing(house);
        Check.same("trade() of an open chain", house.trade(), 0);
        house.takeBack(0);
        house.offer(0, 3);
        isRing(house, 1, 2, 3, 4);
        for (int broken = 0; broken < 4; broken++) {
            Cardhouse other = circleOf(4);
            other.takeBack(broken);
            other.offer(broken, 8);
            isRing(other);
        }
        // Both have what the other wants, but the kinds do not fit crosswise.
        Cardhouse third = new Cardhouse();
        Houses.offerOf(third, 0, 0, 1);
        Houses.offerOf(third, 1, 0, 1);
        isRing(third);
    }

    private static void cardsGoToTheNext() {
        Cardhouse house = new Cardhouse();
        Houses.offerOf(house, 0, 0, 1);
        Houses.offerOf(house, 1, 1, 2);
        Houses.offerOf(house, 2, 2, 0);
        house.print(2, 2);
        isRing(house, 0, 2, 1);
        Check.same("trade()", house.trade(), 3);
        Check.same("collectorOf(0)", house.collectorOf(0), 2);
        Check.same("collectorOf(1)", house.collectorOf(1), 0);
        Check.same("collectorOf(2)", house.collectorOf(2), 1);
        Check.same("collectorOf(3), which was not offered", house.collectorOf(3), 2);
        for (int offer = 0; offer < 3; offer++) {
            Check.same("isOpen(" + offer + ")", house.isOpen(offer), false);
        }
        Check.same("cards()", house.cards(), 4);
        Check.same("printOf(0)", house.printOf(0), 1);
        Check.same("has(0, 0)", house.has(0, 0), 0);
        Check.same("has(2, 0)", house.has(2, 0), 1);
        Check.same("has(2, 2)", house.has(2, 2), 1);
    }

    private static void fewestFirst() {
        Cardhouse house = circleOf(4);
        isRing(house, 0, 1, 2, 3);
        Houses.offerOf(house, 2, 5, 4);
        Houses.offerOf(house, 3, 6, 5);
        Houses.offerOf(house, 4, 4, 6);
        isRing(house, 4, 5, 6);
        Houses.offerOf(house, 4, 8, 7);
        Houses.offerOf(house, 5, 7, 8);
        isRing(house, 7, 8);
        Check.same("trade() of two", house.trade(), 2);
        isRing(house, 4, 5, 6);
        Check.same("trade() of three", house.trade(), 3);
        isRing(house, 0, 1, 2, 3);
        Check.same("trade() of four", house.trade(), 4);
        Check.same("trade() of none", house.trade(), 0);
    }

    private static void tradeWithoutARing() {
        Check.same("trade() without cards", new Cardhouse().trade(), 0);
        Cardhouse one = new Cardhouse();
        Houses.offerOf(one, 0, 0, 1);
        one.print(1, 1);
        Check.same("trade() of one offer", one.trade(), 0);
        Check.same("isOpen(0)", one.isOpen(0), true);
        for (Asked asked : Asked.values()) {
            Cardhouse house = Houses.busy();
            house.trade();
            Transcript before = Talk.of(asked, house);
            Check.same("trade() when the ring was traded", house.trade(), 0);
            Talk.of(asked, house).isLike(before, "asked after a trade without a ring");
        }
    }

    private static void fortyOffers() {
        Cardhouse house = new Cardhouse();
        for (int offer = 0; offer < 39; offer++) {
            Houses.offerOf(house, offer % 5, offer % 13, offer % 13 + 1);
        }
        isRing(house);
        Check.same("trade() of 39 offers", house.trade(), 0);
        Houses.offerOf(house, 5, 3, 0);
        // A card goes to one who has the kind below it; the last offer has the kind 3, and wants the kind 0.
        isRing(house, 0, 39, 2, 1);
        house.takeBack(39);
        isRing(house);
        Cardhouse other = new Cardhouse();
        for (int offer = 0; offer < 38; offer++) {
            Houses.offerOf(other, 0, 0, 1);
        }
        Houses.offerOf(other, 1, 2, 3);
        Houses.offerOf(other, 2, 3, 2);
        isRing(other, 38, 39);
        Check.same("trade() of the last two", other.trade(), 2);
    }

    private static void lowestOnward() {
        int[][] circles = {{0, 1, 2, 3}, {2, 0, 3, 1}, {3, 2, 1, 0}, {1, 3, 0, 2}, {2, 1, 0, 3}, {0, 2, 1, 3}};
        for (int[] circle : circles) {
            // The offer i has the place circle[i] in the circle.
            Cardhouse house = new Cardhouse();
            int[] at = new int[4];
            for (int i = 0; i < 4; i++) {
                Houses.offerOf(house, i, circle[i], (circle[i] + 3) % 4);
                at[circle[i]] = i;
            }
            int start = circle[0];
            isRing(house, 0, at[(start + 1) % 4], at[(start + 2) % 4], at[(start + 3) % 4]);
        }
    }

    private static void differAtTheFirstPlace() {
        Cardhouse house = new Cardhouse();
        Houses.offerOf(house, 0, 0, 1);
        Houses.offerOf(house, 1, 2, 3);
        Houses.offerOf(house, 2, 3, 2);
        Houses.offerOf(house, 3, 1, 0);
        isRing(house, 0, 3);
        Check.same("trade()", house.trade(), 2);
        isRing(house, 1, 2);
        Check.same("trade()", house.trade(), 2);
        isRing(house);
    }

    private static void differAtTheSecondPlace() {
        Cardhouse house = new Cardhouse();
        Houses.offerOf(house, 0, 0, 1);
        Houses.offerOf(house, 1, 1, 0);
        Houses.offerOf(house, 2, 1, 0);
        isRing(house, 0, 1);
        house.takeBack(1);
        isRing(house, 0, 2);
        house.offer(1, 0);
        isRing(house, 0, 2);
        Cardhouse other = new Cardhouse();
        Houses.offerOf(other, 0, 0, 2);
        Houses.offerOf(other, 1, 2, 1);
        Houses.offerOf(other, 2, 1, 0);
        Houses.offerOf(other, 3, 1, 0);
        // 0, 2, 1 and 0, 3, 1.
        isRing(other, 0, 2, 1);
        other.takeBack(2);
        isRing(other, 0, 3, 1);
    }

    private static void differAtTheThirdPlace() {
        Cardhouse house = new Cardhouse();
        Houses.offerOf(house, 0, 0, 1);
        Houses.offerOf(house, 1, 2, 0);
        Houses.offerOf(house, 2, 1, 2);
        Houses.offerOf(house, 3, 1, 2);
        isRing(house, 0, 1, 2);
        house.takeBack(2);
        isRing(house, 0, 1, 3);
        house.offer(2, 2);
        isRing(house, 0, 1, 3);
    }

    private static void differAtTheFourthPlace() {
        Cardhouse house = circleOf(4);
        Houses.offerOf(house, 4, 3, 2);
        isRing(house, 0, 1, 2, 3);
        house.takeBack(3);
        isRing(house, 0, 1, 2, 4);
        house.offer(3, 2);
        isRing(house, 0, 1, 2, 4);
        house.takeBack(4);
        isRing(house, 0, 1, 2, 5);
    }

    private static void lowerNumbersThatDoNotClose() {
        Cardhouse house = new Cardhouse();
        Houses.offerOf(house, 0, 0, 1);
        Houses.offerOf(house, 1, 2, 0);
        Houses.offerOf(house, 2, 2, 0);
        Houses.offerOf(house, 3, 1, 2);
        Houses.offerOf(house, 4, 1, 2);
        // 0 gives to 1 or 2, these to 3 or 4, and these to 0.
        isRing(house, 0, 1, 3);
        house.takeBack(3);
        isRing(house, 0, 1, 4);
        house.takeBack(1);
        isRing(house, 0, 2, 4);
        Houses.offerOf(house, 5, 2, 1);
        // 4 gives to 5, and 5 to 4.
        isRing(house, 4, 5);
        Houses.offerOf(house, 2, 1, 0);
        isRing(house, 0, 6);
        house.takeBack(0);
        isRing(house, 4, 5);
        // 0 gives to 1, which gives to none; and to 2, which gives to 3, and this to 0.
        Cardhouse other = new Cardhouse();
        Houses.offerOf(other, 0, 0, 1);
        Houses.offerOf(other, 1, 9, 0);
        Houses.offerOf(other, 2, 2, 0);
        Houses.offerOf(other, 3, 1, 2);
        isRing(other, 0, 2, 3);
    }

    private static void noneWithoutARing() {
        for (int place : new int[] {0, 1, 3, 4, Integer.MAX_VALUE}) {
            Check.same("ring(" + place + ") without offers", new Cardhouse().ring(place), Cardhouse.NONE);
            Check.same("ring(" + place + ") of a circle of five", circleOf(5).ring(place), Cardhouse.NONE);
            Cardhouse house = circleOf(4);
            house.trade();
            Check.same("ring(" + place + ") when it was traded", house.ring(place), Cardhouse.NONE);
        }
    }

    private static void noneBehindTheLast() {
        for (int size = 2; size <= 4; size++) {
            Cardhouse house = circleOf(size);
            Check.same("ring(0) of " + size, house.ring(0), 0);
            Check.same("the last of " + size, house.ring(size - 1), size - 1);
            Check.same("none behind the last of " + size, house.ring(size), Cardhouse.NONE);
            Check.same("ring(5) of " + size, house.ring(5), Cardhouse.NONE);
            Check.same("ring(2147483647) of " + size, house.ring(2147483647), Cardhouse.NONE);
        }
    }

    private static void placeBelowNone() {
        for (int place : new int[] {-1, -2, Integer.MIN_VALUE}) {
            new Refused(Houses::busy).index("ring(" + place + ") of a ring", house -> house.ring(place));
            new Refused(Houses::full).index("ring(" + place + ") of the 40", house -> house.ring(place));
            new Refused(Cardhouse::new).index("ring(" + place + ") without one", house -> house.ring(place));
        }
    }

    private static void askedTwice() {
        Cardhouse house = Houses.busy();
        isRing(house, 3, 5, 4);
        isRing(house, 3, 5, 4);
        Check.same("trade() after it was asked", house.trade(), 3);
        isRing(house);
        Cardhouse full = Houses.full();
        isRing(full, 4, 39, 6, 5);
        isRing(full, 4, 39, 6, 5);
        Check.same("trade() after it was asked", full.trade(), 4);
    }
}
