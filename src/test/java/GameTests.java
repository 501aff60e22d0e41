import java.util.Arrays;

/** Promise 9, what is told of games: powers, points, triggers, what is gained ahead, wins. */
final class GameTests {
    private GameTests() {
    }

    static void run() {
        Check.sentence(9, "each by its seed, and played card by card from the place 0 on", GameTests::eachByItsSeed);
        Check.sentence(9, "each by its seed, and played card by card from the place 0 on", GameTests::allRounds);
        Check.sentence(9, "In a round each deck has the power of its card and what it gained ahead.",
            GameTests::powerAndGain);
        Check.sentence(9, "The deck with the greater one wins the round and has a point; with like ones none does.",
            GameTests::greaterLikeAndLess);
        Check.sentence(9, "if a deck's card has the trigger 1, and the deck has won the round, it has one point more",
            GameTests::onePointMore);
        Check.sentence(9, "if it has the trigger 2, and the deck has not won it, it gains 2 for its next round",
            GameTests::gainsTwo);
        Check.sentence(9, "Then, unless the other deck's card has the trigger 3", GameTests::unlessTriggerThree);
        Check.sentence(9, "What was gained ahead counts for one round.", GameTests::countsForOneRound);
        Check.sentence(9, "What was gained ahead counts for one round.", GameTests::countsInNoOtherGame);
        Check.sentence(9, "The deck with more points wins the game", GameTests::onePointIsEnough);
        Check.sentence(9, "each kind in it has a win more, however many of its cards it has", GameTests::kindsWin);
        Check.sentence(9, "With like points nobody does.", GameTests::likePoints);
    }

    private static void answers(int[] kinds, int due) {
        Cardhouse house = Houses.duel(kinds[0], kinds[1], kinds[2], kinds[3]);
        String what = "play of " + kinds[0] + "/" + kinds[1] + " and " + kinds[2] + "/" + kinds[3];
        Check.same(what, house.play(0, 1, 5, 6), due);
        Check.same(what + ", the other way", house.play(1, 0, 5, 6), -due);
        Check.same(what + ", wins(0)", house.wins(0), due > 0 ? 2 : 0);
        Check.same(what + ", wins(1)", house.wins(1), due < 0 ? 2 : 0);
    }

    private static void eachByItsSeed() {
        Cardhouse house = new Cardhouse();
        int[] firstPowers = {9, 2, 5, 4};
        int[] secondPowers = {3, 8, 1, 6};
        for (int i = 0; i < 4; i++) {
            house.setKind(i, firstPowers[i], 0);
            house.setKind(4 + i, secondPowers[i], 0);
        }
        Houses.deckOf(house, 0, 0, 1, 2, 3);
        Houses.deckOf(house, 1, 4, 5, 6, 7);
        for (int seed = 0; seed < 40; seed++) {
            int due = 0;
            for (int place = 0; place < 4; place++) {
                int one = firstPowers[house.shuffled(0, seed, place)];
                int other = secondPowers[house.shuffled(1, 1000 - seed, place) - 4];
                due += Integer.compare(one, other);
            }
            Check.same("play with the seed " + seed, house.play(0, 1, seed, 1000 - seed), due);
        }
    }

    private static void allRounds() {
        for (int size = 4; size <= 10; size++) {
            for (int strong = 0; strong < size; strong++) {
                Cardhouse house = new Cardhouse();
                house.setFormat(size, 2);
                house.setKind(strong, 1, 0);
                Houses.deckOfSize(house, 0, size);
                int[] others = {10, 11, 12, 13, 14, 15, 10, 11, 12, 13};
                Houses.deckOf(house, 1, Arrays.copyOf(others, size));
                Check.same("play of " + size + " with one strong card", house.play(0, 1, strong, 0), 1);
            }
        }
    }

    private static void powerAndGain() {
        Cardhouse house = new Cardhouse();
        house.setKind(0, 0, 2);
        house.setKind(1, 7, 0);
        house.setKind(2, 5, 0);
        house.setKind(3, 9, 0);
        house.setFormat(4, 4);
        Houses.stackedDeckOf(house, 0, 0, 1, 0, 2);
        Houses.stackedDeckOf(house, 1, 3, 3, 3, 2);
        // 0 loses and gains; 7 + 2 is like 9; 0 loses and gains; 5 + 2 wins over 5.
        Check.same("play of a like and a won round by what was gained", house.play(0, 1, 0, 0), -1);
        house.setKind(1, 8, 0);
        // 8 + 2 wins over 9: a sum may be above 9.
        Check.same("play of two rounds won by what was gained", house.play(0, 1, 0, 0), 0);
        house.setKind(1, 6, 0);
        // 6 + 2 loses against 9.
        Check.same("play of a round that is lost all the same", house.play(0, 1, 0, 0), -2);
    }

    private static void greaterLikeAndLess() {
        answers(new int[] {5, 0, 4, 0}, 4);
        answers(new int[] {5, 0, 5, 0}, 0);
        answers(new int[] {4, 0, 5, 0}, -4);
        answers(new int[] {0, 0, 9, 0}, -4);
        answers(new int[] {9, 0, 0, 0}, 4);
        answers(new int[] {0, 0, 0, 0}, 0);
        answers(new int[] {9, 0, 9, 0}, 0);
    }

    private static void onePointMore() {
        answers(new int[] {5, 1, 4, 0}, 8);
        answers(new int[] {4, 1, 5, 0}, -4);
        answers(new int[] {5, 1, 5, 0}, 0);
        answers(new int[] {5, 1, 5, 1}, 0);
        answers(new int[] {5, 1, 4, 1}, 8);
        answers(new int[] {5, 0, 4, 1}, 4);
    }

    private static void gainsTwo() {
        // Lost and won by turns: 4, and 4 + 2, against 5.
        answers(new int[] {4, 2, 5, 0}, 0);
        // Lost, then like, which gains again: one round is lost.
        answers(new int[] {3, 2, 5, 0}, -1);
        // Like, then won, by turns.
        answers(new int[] {5, 2, 5, 0}, 2);
        answers(new int[] {5, 2, 5, 2}, 0);
        // The one that wins does not gain: 5 against 4, 5 against 4 + 2, 5 + 2 against 4, 5 against 4 + 2.
        answers(new int[] {5, 2, 4, 2}, 0);
        // A deck that wins each round never gains, nor does one with another trigger.
        answers(new int[] {6, 2, 5, 0}, 4);
        answers(new int[] {4, 1, 5, 0}, -4);
    }

    private static void unlessTriggerThree() {
        answers(new int[] {5, 1, 4, 3}, 4);
        answers(new int[] {4, 2, 5, 3}, -4);
        answers(new int[] {5, 2, 5, 3}, 0);
        // The trigger 3 does nothing else, to the other one and to its own.
        answers(new int[] {5, 3, 4, 0}, 4);
        answers(new int[] {5, 3, 4, 3}, 4);
        answers(new int[] {5, 3, 5, 3}, 0);
        // It keeps a card of the same round from its trigger alone.
        Cardhouse house = new Cardhouse();
        house.setKind(0, 5, 1);
        house.setKind(1, 4, 0);
        house.setKind(2, 4, 3);
        house.setFormat(4, 4);
        Houses.stackedDeckOf(house, 0, 0, 0, 0, 0);
        Houses.stackedDeckOf(house, 1, 1, 2, 1, 1);
        Check.same("play with the trigger 3 in one round", house.play(0, 1, 0, 0), 7);
        whatWasGainedBeforeStays();
    }

    /** The trigger 3 keeps no deck from what it gained a round before. */
    private static void whatWasGainedBeforeStays() {
        Cardhouse house = new Cardhouse();
        house.setKind(0, 3, 2);
        house.setKind(1, 4, 0);
        house.setKind(2, 4, 3);
        house.setKind(3, 3, 0);
        house.setFormat(4, 4);
        Houses.stackedDeckOf(house, 0, 0, 0, 3, 3);
        Houses.stackedDeckOf(house, 1, 1, 2, 1, 1);
        // 3 loses and gains; 3 + 2 wins against the trigger 3; 3 loses; 3 loses.
        Check.same("play with the trigger 3 behind a gain", house.play(0, 1, 0, 0), -2);
        Houses.stackedDeckOf(house, 2, 1, 2, 2, 1);
        house.setKind(2, 9, 3);
        // 3 loses and gains; 3 + 2 loses and gains nothing; 3 loses; 3 loses.
        Check.same("play with the trigger 3 over a gain", house.play(0, 2, 0, 0), -4);
    }

    private static void countsForOneRound() {
        // 1 + 2 is less than 5 in each round: what is gained in one round is not added to that of the one before.
        answers(new int[] {1, 2, 5, 0}, -4);
        answers(new int[] {0, 2, 3, 0}, -4);
        Cardhouse house = new Cardhouse();
        house.setFormat(5, 4);
        house.setKind(0, 1, 2);
        house.setKind(1, 3, 0);
        house.setKind(2, 2, 0);
        house.setKind(3, 2, 0);
        Houses.stackedDeckOf(house, 0, 0, 1, 1, 2, 0);
        Houses.stackedDeckOf(house, 1, 2, 2, 2, 2, 3);
        // 1 loses and gains; 3 + 2 wins; 3 wins without; 2 is like; 1 loses.
        Check.same("play of 1 3 3 2 1 against 2", house.play(0, 1, 0, 0), 0);
        house.setKind(1, 2, 0);
        // 1 loses and gains; 2 + 2 wins; 2 is like; 2 is like; 1 loses.
        Check.same("play of 1 2 2 2 1 against 2", house.play(0, 1, 0, 0), -1);
        house.setKind(0, 0, 2);
        house.setKind(1, 0, 0);
        // 0 loses and gains; 0 + 2 is like; 0 loses; 2 is like; 0 loses.
        Check.same("play of 0 0 0 2 0 against 2", house.play(0, 1, 0, 0), -3);
    }

    /** The last round of each game gains for a round that is not played. */
    private static void countsInNoOtherGame() {
        Cardhouse house = new Cardhouse();
        house.setKind(0, 0, 2);
        house.setKind(1, 1, 0);
        house.setKind(2, 1, 0);
        house.setFormat(4, 4);
        Houses.stackedDeckOf(house, 0, 1, 1, 1, 0);
        Houses.stackedDeckOf(house, 1, 2, 2, 2, 2);
        for (int game = 0; game < 3; game++) {
            Check.same("play with a gain in the last round", house.play(0, 1, 0, 0), -1);
            Check.same("play the other way", house.play(1, 0, 0, 0), 1);
        }
    }

    private static void onePointIsEnough() {
        Cardhouse house = new Cardhouse();
        house.setKind(1, 1, 0);
        Houses.deckOf(house, 0, 0, 0, 2, 1);
        Houses.deckOf(house, 5, 3, 3, 4, 4);
        Check.same("play with one point more", house.play(0, 1, 0, 0), 1);
        Check.same("wins(1) of the first deck", house.wins(1), 1);
        Check.same("wins(3) of the second deck", house.wins(3), 0);
        Check.same("play with one point less", house.play(1, 0, 0, 0), -1);
        Check.same("wins(1) of the second deck then", house.wins(1), 2);
        Check.same("wins(3) of the first deck then", house.wins(3), 0);
    }

    private static void kindsWin() {
        Cardhouse house = new Cardhouse();
        house.setFormat(4, 4);
        house.setKind(1, 5, 0);
        house.setKind(15, 9, 0);
        Houses.deckOf(house, 0, 1, 1, 1, 15);
        Houses.deckOf(house, 1, 1, 4, 4, 0);
        for (int seed = 0; seed < 3; seed++) {
            Check.isTrue("the first deck wins", house.play(0, 1, seed, 0) > 0);
        }
        Check.same("wins(1) with three cards", house.wins(1), 3);
        Check.same("wins(15) with one card", house.wins(15), 3);
        Check.same("wins(4) of the other deck", house.wins(4), 0);
        Check.same("wins(0) of the other deck", house.wins(0), 0);
        Check.same("wins(2) of no deck", house.wins(2), 0);
        Cardhouse other = Houses.duel(6, 0, 5, 0);
        other.play(0, 1, 0, 0);
        Check.same("wins(0) with four cards", other.wins(0), 1);
    }

    private static void likePoints() {
        Cardhouse house = Houses.duel(5, 0, 5, 0);
        Check.same("play without a point", house.play(0, 1, 0, 0), 0);
        Check.same("wins(0)", house.wins(0), 0);
        Check.same("wins(1)", house.wins(1), 0);
        Cardhouse other = Houses.duel(4, 2, 5, 0);
        Check.same("play with two points each", other.play(0, 1, 0, 0), 0);
        Check.same("wins(0) with two points each", other.wins(0), 0);
        Check.same("wins(1) with two points each", other.wins(1), 0);
    }
}
