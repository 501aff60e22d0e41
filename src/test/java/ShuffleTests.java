import java.math.BigInteger;

/** Promise 20: shuffled. */
final class ShuffleTests {
    private ShuffleTests() {
    }

    static void run() {
        Check.sentence(20, "for i from n - 1 down to 1", ShuffleTests::oneCardAndTwo);
        Check.sentence(20, "s becomes the remainder of s times 1103515245 and 12345, together, by 2147483648",
            ShuffleTests::remaindersByHand);
        Check.sentence(20, "j being the remainder of s divided by 65536, rounded down, by i + 1",
            ShuffleTests::allSizes);
        Check.sentence(20, "`seed`: 0 to 2147483647", ShuffleTests::leastAndGreatestSeed);
        Check.sentence(20, "The cards of the deck itself stay in their order.", ShuffleTests::deckKeepsItsOrder);
        Check.sentence(20, "`deck`: its number", ShuffleTests::firstAndLastDeck);
        Check.sentence(20, "`place`: from 0", ShuffleTests::firstAndLastPlace);
        Check.sentence(20, "Throws `IndexOutOfBoundsException` if there is no such deck", ShuffleTests::noSuchDeck);
        Check.sentence(20, "or it has not so many cards", ShuffleTests::notSoManyCards);
        Check.sentence(20, "Throws `IllegalArgumentException` if seed is out of range", ShuffleTests::seedOutOfRange);
        Check.sentence(20, Check.FIRST_NAMED, ShuffleTests::deckAndPlaceAreNamedFirst);
    }

    private static Cardhouse houseWith(int size) {
        Cardhouse house = new Cardhouse();
        Houses.deckOfSize(house, 0, size);
        return house;
    }

    private static void oneCardAndTwo() {
        Cardhouse one = houseWith(1);
        for (int seed : new int[] {0, 1, 3, 2147483647}) {
            Check.same("shuffled of one card by " + seed, one.shuffled(0, seed, 0), 0);
        }
        Cardhouse two = houseWith(2);
        // 12345 by 65536 is 0: the places 1 and 0 are exchanged.
        Check.same("shuffled(0, 0, 0) of two", two.shuffled(0, 0, 0), 1);
        Check.same("shuffled(0, 0, 1) of two", two.shuffled(0, 0, 1), 0);
        // 1103527590 by 65536 is 16838, which is even.
        Check.same("shuffled(0, 1, 0) of two", two.shuffled(0, 1, 0), 1);
        Check.same("shuffled(0, 1, 1) of two", two.shuffled(0, 1, 1), 0);
    }

    private static void remaindersByHand() {
        Cardhouse house = houseWith(2);
        // 2207042835 less 2147483648 is 59559187, by 65536 it is 908, which is even.
        Check.same("shuffled(0, 2, 0)", house.shuffled(0, 2, 0), 1);
        // 3310558080 less 2147483648 is 1163074432, by 65536 it is 17747, which is odd.
        Check.same("shuffled(0, 3, 0)", house.shuffled(0, 3, 0), 0);
        Check.same("shuffled(0, 3, 1)", house.shuffled(0, 3, 1), 1);
        // The greatest seed counts as one below 0: 2147483648 less 1103515245, and 12345 more, is 1043980748,
        // by 65536 it is 15929, which is odd.
        Check.same("shuffled(0, 2147483647, 0)", house.shuffled(0, 2147483647, 0), 0);
        Check.same("shuffled(0, 2147483647, 1)", house.shuffled(0, 2147483647, 1), 1);
    }

    private static void allSizes() {
        int[] seeds = {0, 1, 7, 65535, 65536, 1103515245, 2147483646, 2147483647};
        for (int size = 1; size <= 10; size++) {
            Cardhouse house = houseWith(size);
            for (int seed : seeds) {
                isOrder(house, size, seed);
            }
        }
    }

    private static void leastAndGreatestSeed() {
        Cardhouse house = houseWith(10);
        for (int seed : new int[] {0, 1, 2147483646, 2147483647}) {
            isOrder(house, 10, seed);
        }
    }

    private static void isOrder(Cardhouse house, int size, int seed) {
        int[] due = order(size, seed);
        for (int place = size - 1; place >= 0; place--) {
            String what = "shuffled(0, " + seed + ", " + place + ") of " + size;
            Check.same(what, house.shuffled(0, seed, place), due[place]);
        }
    }

    /** The same by whole numbers without a limit. */
    private static int[] order(int size, int seed) {
        int[] cards = new int[size];
        for (int place = 0; place < size; place++) {
            cards[place] = place;
        }
        BigInteger drawn = BigInteger.valueOf(seed);
        for (int i = size - 1; i > 0; i--) {
            drawn = drawn.multiply(BigInteger.valueOf(1103515245)).add(BigInteger.valueOf(12345));
            drawn = drawn.mod(BigInteger.ONE.shiftLeft(31));
            int j = drawn.shiftRight(16).mod(BigInteger.valueOf(i + 1)).intValue();
            int held = cards[i];
            cards[i] = cards[j];
            cards[j] = held;
        }
        return cards;
    }

    private static void deckKeepsItsOrder() {
        Cardhouse house = houseWith(10);
        house.shuffled(0, 5, 0);
        house.shuffled(0, 2147483647, 9);
        isOrder(house, 10, 5);
        for (int card = 0; card < 10; card++) {
            Check.same("cut(0, 0)", house.cut(0, 0), card);
        }
        Cardhouse other = Houses.duel(5, 0, 4, 0);
        other.play(0, 1, 7, 8);
        for (int card = 0; card < 4; card++) {
            Check.same("cut(0, 0) after a game", other.cut(0, 0), card);
            Check.same("cut(1, 0) after a game", other.cut(1, 0), card + 4);
        }
    }

    private static void firstAndLastDeck() {
        Cardhouse house = Houses.full();
        int[] due = order(10, 77);
        for (int place = 0; place < 10; place++) {
            Check.same("shuffled(0, 77, " + place + ")", house.shuffled(0, 77, place), due[place] * 6);
            Check.same("shuffled(11, 77, " + place + ")", house.shuffled(11, 77, place), due[place] * 6 + 5);
        }
    }

    private static void firstAndLastPlace() {
        for (int size = 1; size <= 10; size++) {
            Cardhouse house = houseWith(size);
            int[] due = order(size, 2026);
            int last = size - 1;
            Check.same("shuffled(0, 2026, 0) of " + size, house.shuffled(0, 2026, 0), due[0]);
            Check.same("shuffled(0, 2026, " + last + ")", house.shuffled(0, 2026, last), due[last]);
            Check.fails("shuffled(0, 2026, " + size + ")", Check.INDEX, () -> house.shuffled(0, 2026, last + 1));
        }
    }

    private static void noSuchDeck() {
        Refused.noSuchDeck("shuffled(.., 0, 0)", (house, deck) -> house.shuffled(deck, 0, 0));
    }

    private static void notSoManyCards() {
        Refused busy = new Refused(Houses::busy);
        busy.indexOutside(0, 4, "shuffled(0, 9, ..) of five", (house, place) -> house.shuffled(0, 9, place));
        busy.indexOutside(0, -1, "shuffled(6, 9, ..) of none", (house, place) -> house.shuffled(6, 9, place));
        Refused full = new Refused(Houses::full);
        full.indexOutside(0, 9, "shuffled(11, 9, ..) of ten", (house, place) -> house.shuffled(11, 9, place));
    }

    private static void seedOutOfRange() {
        Refused refused = new Refused(Houses::busy);
        for (int seed : new int[] {-1, -2, Integer.MIN_VALUE}) {
            refused.argument("shuffled(0, " + seed + ", 0)", house -> house.shuffled(0, seed, 0));
            refused.argument("shuffled(0, " + seed + ", 4)", house -> house.shuffled(0, seed, 4));
        }
    }

    private static void deckAndPlaceAreNamedFirst() {
        Refused refused = new Refused(Houses::busy);
        refused.index("shuffled(7, -1, 0), no such deck", house -> house.shuffled(7, -1, 0));
        refused.index("shuffled(-1, -1, 0), no such deck", house -> house.shuffled(-1, -1, 0));
        refused.index("shuffled(0, -1, 5), not so many cards", house -> house.shuffled(0, -1, 5));
        refused.index("shuffled(0, -1, -1), no such place", house -> house.shuffled(0, -1, -1));
        refused.index("shuffled(6, -1, 0), a deck without cards", house -> house.shuffled(6, -1, 0));
    }
}
