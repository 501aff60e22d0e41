/** Promise 20: shuffled. The orders that are due were worked out by hand from the document's rule. */
final class ShuffleTests {
    private ShuffleTests() {
    }

    static void run() {
        Check.part("promise 20");
        twoCards();
        tenCards();
        wrongInputs();
    }

    private static void twoCards() {
        Cardhouse house = new Cardhouse();
        house.deck(0);
        house.print(0, 0);
        house.add(0, 0);
        Check.same("shuffled of one card", house.shuffled(0, 2147483647, 0), 0);
        house.print(0, 0);
        house.add(0, 1);
        // 12345 / 65536 is 0: the places 1 and 0 are exchanged.
        Check.same("shuffled(0, 0, 0)", house.shuffled(0, 0, 0), 1);
        Check.same("shuffled(0, 0, 1)", house.shuffled(0, 0, 1), 0);
        // 1103527590 / 65536 is 16838, which is even.
        Check.same("shuffled(0, 1, 0)", house.shuffled(0, 1, 0), 1);
        // 2207042835 less 2147483648 is 59559187, by 65536 it is 908, which is even.
        Check.same("shuffled(0, 2, 0)", house.shuffled(0, 2, 0), 1);
        // 1163074432, by 65536 it is 17747, which is odd.
        Check.same("shuffled(0, 3, 0)", house.shuffled(0, 3, 0), 0);
        Check.same("shuffled(0, 3, 1)", house.shuffled(0, 3, 1), 1);
        // 1043980748, by 65536 it is 15929, which is odd.
        Check.same("shuffled(0, 2147483647, 0)", house.shuffled(0, 2147483647, 0), 0);
        Check.same("cut(0, 0): the deck keeps its order", house.cut(0, 0), 0);
    }

    private static void tenCards() {
        Cardhouse house = new Cardhouse();
        house.deck(0);
        for (int card = 0; card < 10; card++) {
            house.print(card, 0);
            house.add(0, card);
        }
        int[] seeds = {0, 1, 7, 65535, 65536, 1103515245, 2147483646, 2147483647};
        for (int seed : seeds) {
            int[] due = order(10, seed);
            for (int place = 9; place >= 0; place--) {
                Check.same("shuffled(0, " + seed + ", " + place + ")", house.shuffled(0, seed, place), due[place]);
            }
        }
        for (int place = 0; place < 10; place++) {
            Check.same("the deck keeps its order", house.cut(0, 0), place);
        }
    }

    /** The same by whole numbers without a limit. */
    private static int[] order(int size, int seed) {
        int[] cards = new int[size];
        for (int place = 0; place < size; place++) {
            cards[place] = place;
        }
        java.math.BigInteger drawn = java.math.BigInteger.valueOf(seed);
        for (int i = size - 1; i > 0; i--) {
            drawn = drawn.multiply(java.math.BigInteger.valueOf(1103515245)).add(java.math.BigInteger.valueOf(12345));
            drawn = drawn.mod(java.math.BigInteger.ONE.shiftLeft(31));
            int j = drawn.shiftRight(16).mod(java.math.BigInteger.valueOf(i + 1)).intValue();
            int held = cards[i];
            cards[i] = cards[j];
            cards[j] = held;
        }
        return cards;
    }

    private static void wrongInputs() {
        Cardhouse house = new Cardhouse();
        Builder.deckOf(house, 0, 0, 1, 2);
        Check.fails("shuffled(-1, 0, 0)", Check.INDEX, () -> house.shuffled(-1, 0, 0));
        Check.fails("shuffled(1, 0, 0)", Check.INDEX, () -> house.shuffled(1, 0, 0));
        Check.fails("shuffled(0, 0, -1)", Check.INDEX, () -> house.shuffled(0, 0, -1));
        Check.fails("shuffled(0, 0, 3)", Check.INDEX, () -> house.shuffled(0, 0, 3));
        Check.fails("shuffled(0, -1, 0)", Check.ARGUMENT, () -> house.shuffled(0, -1, 0));
        Check.fails("shuffled(0, -2147483648, 2)", Check.ARGUMENT, () -> house.shuffled(0, -2147483648, 2));
        Check.fails("shuffled(0, -1, 3)", Check.INDEX, () -> house.shuffled(0, -1, 3));
    }
}
