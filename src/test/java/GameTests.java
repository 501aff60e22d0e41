/** Promise 9: play. Decks of one kind of card, or told by their shuffles, so that each round is known. */
final class GameTests {
    private GameTests() {
    }

    static void run() {
        Check.part("promise 9");
        points();
        triggerOne();
        triggerTwo();
        triggerTwoInOrder();
        triggerThree();
        shufflesBySeeds();
        winsOfAGame();
        whatIsRefused();
    }

    /** A house with the format 4 of 4, and two decks of four cards of the kinds 0 and 1. */
    private static Cardhouse house(int firstPower, int firstTrigger, int secondPower, int secondTrigger) {
        Cardhouse house = new Cardhouse();
        house.setFormat(4, 4);
        house.setKind(0, firstPower, firstTrigger);
        house.setKind(1, secondPower, secondTrigger);
        Builder.deckOf(house, 0, 0, 0, 0, 0);
        Builder.deckOf(house, 1, 1, 1, 1, 1);
        return house;
    }

    private static void answers(int[] kinds, int due) {
        Cardhouse house = house(kinds[0], kinds[1], kinds[2], kinds[3]);
        String what = "play of " + kinds[0] + "/" + kinds[1] + " and " + kinds[2] + "/" + kinds[3];
        Check.same(what, house.play(0, 1, 5, 6), due);
        Check.same(what + ", the other way", house.play(1, 0, 5, 6), -due);
        Check.same(what + ", wins(0)", house.wins(0), due > 0 ? 2 : 0);
        Check.same(what + ", wins(1)", house.wins(1), due < 0 ? 2 : 0);
    }

    private static void points() {
        answers(new int[] {5, 0, 4, 0}, 4);
        answers(new int[] {0, 0, 9, 0}, -4);
        answers(new int[] {5, 0, 5, 0}, 0);
    }

    private static void triggerOne() {
        answers(new int[] {5, 1, 4, 0}, 8);
        answers(new int[] {4, 1, 5, 0}, -4);
        answers(new int[] {5, 1, 5, 1}, 0);
        answers(new int[] {5, 1, 4, 1}, 8);
    }

    private static void triggerTwo() {
        // Gained ahead each round but the first: 4 + 2 against 5.
        answers(new int[] {4, 2, 5, 0}, 0);
        // Lost, then like, which gains ahead again: one round is lost.
        answers(new int[] {3, 2, 5, 0}, -1);
        // Like ones gain ahead too.
        answers(new int[] {5, 2, 5, 0}, 2);
        answers(new int[] {5, 2, 5, 2}, 0);
        // What was gained counts once: 1 + 2 is still less than 5.
        answers(new int[] {1, 2, 5, 0}, -4);
        // The one that wins does not gain: 5, 4 + 2, 5 + 2, 4 + 2.
        answers(new int[] {5, 2, 4, 2}, 0);
    }

    /** Decks of several kinds in an order that the shuffle makes, told by the test itself. */
    private static void triggerTwoInOrder() {
        Cardhouse house = new Cardhouse();
        house.setFormat(5, 4);
        house.setKind(0, 1, 2);
        house.setKind(1, 3, 0);
        house.setKind(2, 2, 0);
        house.setKind(3, 2, 0);
        stacked(house, 0, 0, 1, 1, 2, 0);
        stacked(house, 1, 2, 2, 2, 2, 3);
        // 1 loses and gains; 3 + 2 wins; 3 wins without; 2 is like; 1 loses.
        Check.same("play in order", house.play(0, 1, 0, 0), 0);
        house.setKind(1, 2, 0);
        // 1 loses and gains; 2 + 2 wins; 2 is like; 2 is like; 1 loses.
        Check.same("play in order with a weaker kind", house.play(0, 1, 0, 0), -1);
        house.setKind(0, 0, 2);
        house.setKind(1, 0, 0);
        // 0 loses and gains; 0 + 2 is like; 0 loses; 2 is like; 0 loses.
        Check.same("play in order with nothing", house.play(0, 1, 0, 0), -3);
        // What the last round gained does not go into the next game.
        Check.same("play in order again", house.play(0, 1, 0, 0), -3);
    }

    /** A deck whose cards are of these kinds in their order when it is shuffled by the seed 0. */
    private static void stacked(Cardhouse house, int owner, int... kinds) {
        int probe = Builder.deckOf(house, owner, kinds);
        int size = kinds.length;
        int base = house.cards() - size;
        int[] from = new int[size];
        for (int place = 0; place < size; place++) {
            from[place] = house.shuffled(probe, 0, place) - base;
        }
        int[] cards = new int[size];
        for (int place = 0; place < size; place++) {
            cards[from[place]] = base + place;
        }
        for (int place = 0; place < size; place++) {
            house.cut(probe, 0);
        }
        for (int card : cards) {
            house.add(probe, card);
        }
        for (int place = 0; place < size; place++) {
            Check.same("the card at " + place + " when shuffled", house.shuffled(probe, 0, place), base + place);
        }
    }

    private static void triggerThree() {
        answers(new int[] {5, 1, 4, 3}, 4);
        answers(new int[] {5, 3, 4, 0}, 4);
        answers(new int[] {4, 2, 5, 3}, -4);
        answers(new int[] {5, 2, 5, 3}, 0);
        answers(new int[] {5, 3, 4, 3}, 4);
        // A blocked round does not keep what was gained ahead before it.
        Cardhouse house = new Cardhouse();
        house.setKind(0, 3, 2);
        house.setKind(1, 4, 0);
        house.setKind(2, 4, 3);
        house.setKind(3, 3, 0);
        house.setFormat(4, 4);
        stacked(house, 0, 0, 0, 3, 3);
        stacked(house, 1, 1, 2, 1, 1);
        // 3 loses and gains; 3 + 2 wins; 3 loses; 3 loses.
        Check.same("play with a block behind a gain", house.play(0, 1, 0, 0), -2);
    }

    private static void shufflesBySeeds() {
        Cardhouse house = new Cardhouse();
        int[] firstPowers = {9, 2, 5, 4};
        int[] secondPowers = {3, 8, 1, 6};
        for (int i = 0; i < 4; i++) {
            house.setKind(i, firstPowers[i], 0);
            house.setKind(4 + i, secondPowers[i], 0);
        }
        Builder.deckOf(house, 0, 0, 1, 2, 3);
        Builder.deckOf(house, 1, 4, 5, 6, 7);
        for (int seed = 0; seed < 40; seed++) {
            int due = 0;
            for (int place = 0; place < 4; place++) {
                int one = firstPowers[house.shuffled(0, seed, place)];
                int other = secondPowers[house.shuffled(1, 1000 - seed, place) - 4];
                due += Integer.compare(one, other);
            }
            Check.same("play with the seed " + seed, house.play(0, 1, seed, 1000 - seed), due);
        }
        int last = house.shuffled(0, 2147483647, 0);
        Check.isTrue("the highest seed", last >= 0 && last < 4);
        Check.isTrue("play with the highest seeds", house.play(0, 1, 2147483647, 2147483647) <= 4);
    }

    private static void winsOfAGame() {
        Cardhouse house = house(5, 0, 5, 0);
        house.play(0, 1, 0, 0);
        Check.same("wins(0) of like points", house.wins(0), 0);
        Check.same("wins(1) of like points", house.wins(1), 0);
        house.setKind(0, 6, 0);
        house.play(0, 1, 0, 0);
        Check.same("wins(0) of four cards", house.wins(0), 1);
        Check.same("wins(1) of the other", house.wins(1), 0);
    }

    private static void whatIsRefused() {
        Cardhouse house = house(5, 0, 4, 0);
        house.deck(1);
        house.deck(0);
        Check.fails("play(-1, 0)", Check.INDEX, () -> house.play(-1, 0, 0, 0));
        Check.fails("play(4, 0)", Check.INDEX, () -> house.play(4, 0, 0, 0));
        Check.fails("play(0, -1)", Check.INDEX, () -> house.play(0, -1, 0, 0));
        Check.fails("play(0, 4)", Check.INDEX, () -> house.play(0, 4, -1, 0));
        Check.fails("play with the first seed -1", Check.ARGUMENT, () -> house.play(0, 1, -1, 0));
        Check.fails("play with the second seed -1", Check.ARGUMENT, () -> house.play(0, 1, 0, -1));
        Check.fails("play against itself", Check.ARGUMENT, () -> house.play(0, 0, 0, 0));
        Check.fails("play of one owner's decks", Check.ARGUMENT, () -> house.play(0, 3, 0, 0));
        Check.fails("play of the first not allowed", Check.STATE, () -> house.play(2, 0, 0, 0));
        Check.fails("play of the second not allowed", Check.STATE, () -> house.play(0, 2, 0, 0));
        Check.fails("play with a seed -1, not allowed", Check.ARGUMENT, () -> house.play(0, 2, 0, -1));
        house.ban(1, true);
        Check.fails("play of a banned kind", Check.STATE, () -> house.play(0, 1, 0, 0));
        Check.same("wins(0) behind those that threw", house.wins(0), 0);
        house.ban(1, false);
        Check.same("play then", house.play(0, 1, 0, 0), 4);
    }
}
