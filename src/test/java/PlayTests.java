/** Promise 9, the call itself: its ranges, what it answers, and what it refuses. */
final class PlayTests {
    private static final int GREATEST = 2147483647;

    private PlayTests() {
    }

    static void run() {
        Check.sentence(9, "`first`: the number of a deck", PlayTests::firstAndLastDeck);
        Check.sentence(9, "`second`: the number of another one", PlayTests::notAgainstItself);
        Check.sentence(9, "`firstSeed`: 0 to 2147483647", PlayTests::leastAndGreatestSeed);
        Check.sentence(9, "`secondSeed`: 0 to 2147483647", PlayTests::leastAndGreatestSeed);
        Check.sentence(9, "Returns the points of the first deck less those of the second one.",
            PlayTests::leastAndGreatestLead);
        Check.sentence(9, "Throws `IndexOutOfBoundsException` if there is no such deck", PlayTests::noSuchDeck);
        Check.sentence(9, "Throws `IllegalArgumentException` if a seed is out of range", PlayTests::seedOutOfRange);
        Check.sentence(9, "or both have the same owner", PlayTests::sameOwner);
        Check.sentence(9, "Throws `IllegalStateException` if one of both is not allowed", PlayTests::notAllowed);
        Check.sentence(9, "Throws `IllegalStateException` if one of both is not allowed",
            PlayTests::notAllowedNoMoreAndAgain);
        Check.sentence(9, Check.FIRST_NAMED, PlayTests::deckIsNamedFirst);
        Check.sentence(9, Check.FIRST_NAMED, PlayTests::seedAndOwnerAreNamedNext);
        Check.sentence(9, Check.CHANGES_NOTHING, PlayTests::refusedGameIsNotPlayed);
        Check.sentence(9, Check.CHANGES_NOTHING, PlayTests::playedGameChangesWinsAlone);
    }

    private static void firstAndLastDeck() {
        Cardhouse house = new Cardhouse();
        house.setKind(0, 5, 0);
        Houses.deckOf(house, 0, 0, 0, 1, 1);
        for (int deck = 1; deck < 11; deck++) {
            house.deck(0);
        }
        Houses.deckOf(house, 5, 2, 2, 3, 3);
        Check.same("play(0, 11, 0, 0)", house.play(0, 11, 0, 0), 2);
        Check.same("play(11, 0, 0, 0)", house.play(11, 0, 0, 0), -2);
        Check.same("wins(0)", house.wins(0), 2);
        Check.same("wins(2)", house.wins(2), 0);
    }

    private static void notAgainstItself() {
        Refused refused = new Refused(Houses::busy);
        for (int deck = 0; deck < 7; deck++) {
            int both = deck;
            refused.argument("play of the deck " + deck + " twice", house -> house.play(both, both, 0, 0));
        }
    }

    private static void leastAndGreatestSeed() {
        int[] seeds = {0, 1, GREATEST - 1, GREATEST};
        for (int firstSeed : seeds) {
            for (int secondSeed : seeds) {
                Cardhouse house = new Cardhouse();
                for (int kind = 0; kind < 8; kind++) {
                    house.setKind(kind, kind * 5 % 8, 0);
                }
                Houses.deckOf(house, 0, 0, 1, 2, 3);
                Houses.deckOf(house, 1, 4, 5, 6, 7);
                int due = 0;
                for (int place = 0; place < 4; place++) {
                    int one = house.shuffled(0, firstSeed, place) * 5 % 8;
                    int other = house.shuffled(1, secondSeed, place) * 5 % 8;
                    due += Integer.compare(one, other);
                }
                String what = "play(0, 1, " + firstSeed + ", " + secondSeed + ")";
                Check.same(what, house.play(0, 1, firstSeed, secondSeed), due);
            }
        }
    }

    /** Up to ten rounds, each with up to two points. */
    private static void leastAndGreatestLead() {
        Cardhouse house = new Cardhouse();
        house.setFormat(10, 4);
        for (int kind = 0; kind < 3; kind++) {
            house.setKind(kind, 1, 1);
        }
        Houses.deckOf(house, 0, 0, 0, 0, 0, 1, 1, 1, 1, 2, 2);
        Houses.deckOf(house, 1, 3, 3, 3, 3, 4, 4, 4, 4, 5, 5);
        Check.same("play(0, 1) of all points", house.play(0, 1, 3, 4), 20);
        Check.same("play(1, 0) of all points", house.play(1, 0, 3, 4), -20);
        house.setKind(2, 0, 1);
        Check.same("play(0, 1) with two like rounds", house.play(0, 1, 3, 4), 16);
        house.setKind(5, 9, 1);
        house.setKind(0, 0, 0);
        house.setKind(1, 0, 0);
        Check.same("play(0, 1) with two rounds lost", house.play(0, 1, 3, 4), -4);
        house.setKind(5, 0, 1);
        Check.same("play(0, 1) without a point", house.play(0, 1, 3, 4), 0);
    }

    private static void noSuchDeck() {
        Refused.noSuchDeck("play(.., 0, 0, 0)", (house, deck) -> house.play(deck, 0, 0, 0));
        Refused.noSuchDeck("play(0, .., 0, 0)", (house, deck) -> house.play(0, deck, 0, 0));
    }

    private static void seedOutOfRange() {
        Refused refused = new Refused(Houses::busy);
        for (int seed : new int[] {-1, -2, Integer.MIN_VALUE}) {
            refused.argument("play(0, 1, " + seed + ", 0)", house -> house.play(0, 1, seed, 0));
            refused.argument("play(0, 1, 0, " + seed + ")", house -> house.play(0, 1, 0, seed));
            refused.argument("play(0, 1, " + seed + ", " + seed + ")", house -> house.play(0, 1, seed, seed));
        }
    }

    private static void sameOwner() {
        Refused refused = new Refused(PlayTests::twoOfOneOwner);
        refused.argument("play(0, 1) of one owner", house -> house.play(0, 1, 0, 0));
        refused.argument("play(1, 0) of one owner", house -> house.play(1, 0, 0, 0));
        refused.argument("play(0, 0)", house -> house.play(0, 0, 0, 0));
        Cardhouse house = twoOfOneOwner();
        Check.same("play(0, 2) of two owners", house.play(0, 2, 0, 0), 4);
        Check.same("play(2, 1) of two owners", house.play(2, 1, 0, 0), 0);
    }

    private static Cardhouse twoOfOneOwner() {
        Cardhouse house = new Cardhouse();
        house.setFormat(4, 4);
        house.setKind(0, 5, 0);
        Houses.deckOf(house, 5, 0, 0, 0, 0);
        Houses.deckOf(house, 5, 1, 1, 1, 1);
        Houses.deckOf(house, 4, 2, 2, 2, 2);
        return house;
    }

    private static void notAllowed() {
        Refused refused = new Refused(Houses::busy);
        String[] whys = {"too few cards", "too many of a kind", "a banned kind"};
        for (int deck = 3; deck <= 5; deck++) {
            int asked = deck;
            String why = whys[deck - 3];
            refused.state("play(0, " + deck + "), " + why, house -> house.play(0, asked, 0, 0));
            refused.state("play(" + deck + ", 0), " + why, house -> house.play(asked, 0, 0, 0));
        }
        refused.state("play(1, 6), no cards", house -> house.play(1, 6, 0, 0));
        refused.state("play(6, 1), no cards", house -> house.play(6, 1, 0, 0));
        refused.state("play(3, 4), both", house -> house.play(3, 4, 0, 0));
    }

    private static void notAllowedNoMoreAndAgain() {
        Cardhouse house = Houses.duel(5, 0, 4, 0);
        house.add(1, house.print(1, 1));
        Check.fails("play with a card too many", Check.STATE, () -> house.play(0, 1, 0, 0));
        house.cut(1, 4);
        Check.same("play when it was cut", house.play(0, 1, 0, 0), 4);
        house.ban(0, true);
        Check.fails("play with a banned kind", Check.STATE, () -> house.play(0, 1, 0, 0));
        house.ban(0, false);
        Check.same("play when it is banned no more", house.play(0, 1, 0, 0), 4);
        house.offer(0, 1);
        house.offer(4, 0);
        Check.same("play with cards that are offered", house.play(0, 1, 0, 0), 4);
        house.trade();
        Check.fails("play with cards that are away", Check.STATE, () -> house.play(0, 1, 0, 0));
        house.cut(0, 0);
        house.cut(1, 0);
        house.add(0, 4);
        house.add(1, 0);
        Check.same("play with the cards that came for them", house.play(0, 1, 0, 0), leadAfterTheTrade(house));
        house.setFormat(4, 2);
        Check.fails("play with too many of a kind", Check.STATE, () -> house.play(0, 1, 0, 0));
    }

    /** The lead when the card 0, which is strong, and the card 4, which is weak, have changed their decks. */
    private static int leadAfterTheTrade(Cardhouse house) {
        int lead = 0;
        for (int place = 0; place < 4; place++) {
            int one = house.shuffled(0, 0, place) == 4 ? 4 : 5;
            int other = house.shuffled(1, 0, place) == 0 ? 5 : 4;
            lead += Integer.compare(one, other);
        }
        return lead;
    }

    private static void deckIsNamedFirst() {
        Refused refused = new Refused(Houses::busy);
        for (int deck : new int[] {-1, 7}) {
            String what = " and the deck " + deck;
            refused.index("the first seed -1" + what + " first", house -> house.play(deck, 0, -1, 0));
            refused.index("the second seed -1" + what + " first", house -> house.play(deck, 0, 0, -1));
            refused.index("the first seed -1" + what + " second", house -> house.play(0, deck, -1, 0));
            refused.index("the second seed -1" + what + " second", house -> house.play(0, deck, 0, -1));
            refused.index("one that is not allowed second" + what + " first", house -> house.play(deck, 3, 0, 0));
            refused.index("one that is not allowed first" + what + " second", house -> house.play(3, deck, 0, 0));
            refused.index("twice" + what, house -> house.play(deck, deck, 0, 0));
        }
    }

    private static void seedAndOwnerAreNamedNext() {
        Refused refused = new Refused(Houses::busy);
        refused.argument("play(0, 3, -1, 0), the first seed, not allowed", house -> house.play(0, 3, -1, 0));
        refused.argument("play(3, 0, -1, 0), the first seed, not allowed", house -> house.play(3, 0, -1, 0));
        refused.argument("play(0, 3, 0, -1), the second seed, not allowed", house -> house.play(0, 3, 0, -1));
        refused.argument("play(3, 0, 0, -1), the second seed, not allowed", house -> house.play(3, 0, 0, -1));
        refused.argument("play(0, 6, 0, 0), one owner, not allowed", house -> house.play(0, 6, 0, 0));
        refused.argument("play(6, 0, 0, 0), one owner, not allowed", house -> house.play(6, 0, 0, 0));
        refused.argument("play(3, 3, 0, 0), one deck, not allowed", house -> house.play(3, 3, 0, 0));
        refused.argument("play(6, 6, -1, -1), all of them", house -> house.play(6, 6, -1, -1));
    }

    private static void refusedGameIsNotPlayed() {
        Cardhouse house = Houses.duel(5, 0, 4, 0);
        house.deck(1);
        house.deck(0);
        Check.fails("play with the first seed -1", Check.ARGUMENT, () -> house.play(0, 1, -1, 0));
        Check.fails("play with the second seed -1", Check.ARGUMENT, () -> house.play(0, 1, 0, -1));
        Check.fails("play of one owner", Check.ARGUMENT, () -> house.play(0, 3, 0, 0));
        Check.fails("play against a deck that is not allowed", Check.STATE, () -> house.play(0, 2, 0, 0));
        Check.fails("play against no deck", Check.INDEX, () -> house.play(0, 4, 0, 0));
        Check.same("wins(0)", house.wins(0), 0);
        Check.same("wins(1)", house.wins(1), 0);
        Check.same("price(0)", house.price(0), 25);
        Check.same("play then", house.play(0, 1, 0, 0), 4);
        Check.same("wins(0) then", house.wins(0), 1);
    }

    private static void playedGameChangesWinsAlone() {
        for (Asked asked : Asked.values()) {
            if (asked != Asked.PRICES) {
                Cardhouse house = Houses.busy();
                Transcript before = Talk.of(asked, house);
                house.play(0, 1, 9, 10);
                Talk.of(asked, house).isLike(before, "asked after a game");
            }
        }
    }
}
