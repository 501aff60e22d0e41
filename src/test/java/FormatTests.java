/** Promises 3, 4 and 19: setFormat, ban, isAllowed. */
final class FormatTests {
    private FormatTests() {
    }

    static void run() {
        Check.sentence(3, "`size`: 4 to 10", FormatTests::leastAndGreatestSize);
        Check.sentence(3, "`most`: 1 to 4", FormatTests::leastAndGreatestMost);
        Check.sentence(3, "Returns how many decks are allowed then.", FormatTests::formatCounts);
        Check.sentence(3, "Throws `IllegalArgumentException` if size or most is out of range",
            FormatTests::sizeOutOfRange);
        Check.sentence(3, "Throws `IllegalArgumentException` if size or most is out of range",
            FormatTests::mostOutOfRange);
        Check.sentence(3, Check.CHANGES_NOTHING, FormatTests::refusedFormatIsNotSet);

        Check.sentence(4, "`kind`: 0 to 15", FormatTests::firstAndLastKindBanned);
        Check.sentence(4, "`isBanned`: whether it is banned from now on", FormatTests::bannedTwiceAndNoMore);
        Check.sentence(4, "Returns how many decks are allowed then.", FormatTests::banCounts);
        Check.sentence(4, "Throws `IndexOutOfBoundsException` if there is no such kind", FormatTests::noSuchKind);
        Check.sentence(4, Check.CHANGES_NOTHING, FormatTests::refusedBanBansNothing);

        Check.sentence(19, "A deck is allowed if it has just that many cards", FormatTests::justThatMany);
        Check.sentence(19, "not more of a kind than that", FormatTests::notMoreOfAKind);
        Check.sentence(19, "none of a banned kind", FormatTests::noneOfABannedKind);
        Check.sentence(19, "and all of them are in the collection of its owner now", FormatTests::allInTheCollection);
        Check.sentence(19, "A deck is allowed if it has just that many cards", FormatTests::withoutCards);
        Check.sentence(19, "`deck`: its number", FormatTests::firstAndLastDeck);
        Check.sentence(19, "Throws `IndexOutOfBoundsException` if there is no such deck", FormatTests::noSuchDeck);
    }

    /** Decks of 3 to 10 cards of different kinds: the deck d has d + 3 cards. */
    private static Cardhouse decksBySize() {
        Cardhouse house = new Cardhouse();
        for (int kind = 0; kind < 10; kind++) {
            house.print(kind, 0);
        }
        for (int size = 3; size <= 10; size++) {
            int deck = house.deck(0);
            for (int card = 0; card < size; card++) {
                house.add(deck, card);
            }
        }
        return house;
    }

    /** Decks of five cards with 1 to 5 of the kind 0: the deck d has d + 1. */
    private static Cardhouse decksByMost() {
        Cardhouse house = new Cardhouse();
        for (int of = 1; of <= 5; of++) {
            int[] kinds = {1, 2, 3, 4, 5};
            for (int place = 0; place < of; place++) {
                kinds[4 - place] = 0;
            }
            Houses.deckOf(house, 2, kinds);
        }
        return house;
    }

    private static void leastAndGreatestSize() {
        Cardhouse house = decksBySize();
        for (int size : new int[] {4, 10}) {
            Check.same("setFormat(" + size + ", 1)", house.setFormat(size, 1), 1);
            Check.same("isAllowed with " + size + " cards", house.isAllowed(size - 3), true);
        }
    }

    private static void leastAndGreatestMost() {
        Cardhouse house = decksByMost();
        Check.same("setFormat(5, 1)", house.setFormat(5, 1), 1);
        Check.same("isAllowed with one of a kind", house.isAllowed(0), true);
        Check.same("setFormat(5, 4)", house.setFormat(5, 4), 4);
        Check.same("isAllowed with four of a kind", house.isAllowed(3), true);
    }

    private static void formatCounts() {
        Check.same("setFormat without decks", new Cardhouse().setFormat(4, 4), 0);
        Cardhouse house = new Cardhouse();
        for (int deck = 0; deck < 12; deck++) {
            Houses.deckOf(house, deck % 6, 0, 1, 2, deck == 11 ? 2 : 3);
        }
        Check.same("setFormat with all 12 allowed", house.setFormat(4, 2), 12);
        Check.same("setFormat with the last one not allowed", house.setFormat(4, 1), 11);
        Check.same("setFormat with none allowed", house.setFormat(5, 2), 0);
        Check.same("setFormat with all 12 again", house.setFormat(4, 4), 12);
    }

    private static void sizeOutOfRange() {
        Refused refused = new Refused(Houses::busy);
        refused.argumentOutside(4, 10, "setFormat(.., 1)", (house, size) -> house.setFormat(size, 1));
        refused.argumentOutside(4, 10, "setFormat(.., 4)", (house, size) -> house.setFormat(size, 4));
    }

    private static void mostOutOfRange() {
        Refused refused = new Refused(Houses::busy);
        refused.argumentOutside(1, 4, "setFormat(4, ..)", (house, most) -> house.setFormat(4, most));
        refused.argumentOutside(1, 4, "setFormat(10, ..)", (house, most) -> house.setFormat(10, most));
        refused.argument("setFormat(11, 5)", house -> house.setFormat(11, 5));
    }

    private static void refusedFormatIsNotSet() {
        Cardhouse house = decksByMost();
        house.setFormat(5, 2);
        Check.fails("setFormat(11, 4)", Check.ARGUMENT, () -> house.setFormat(11, 4));
        Check.same("isAllowed with three of a kind", house.isAllowed(2), false);
        Check.fails("setFormat(3, 1)", Check.ARGUMENT, () -> house.setFormat(3, 1));
        Check.same("isAllowed with two of a kind", house.isAllowed(1), true);
        Check.fails("setFormat(4, 5)", Check.ARGUMENT, () -> house.setFormat(4, 5));
        Check.fails("setFormat(4, 0)", Check.ARGUMENT, () -> house.setFormat(4, 0));
        Check.same("ban(15, false), which counts by the format as it was", house.ban(15, false), 2);
    }

    /** Four decks, of the kinds from 0, 4, 8 and 12 on. */
    private static Cardhouse decksOfAllKinds() {
        Cardhouse house = new Cardhouse();
        for (int four = 0; four < 16; four += 4) {
            Houses.deckOf(house, 0, four, four + 1, four + 2, four + 3);
        }
        return house;
    }

    private static void firstAndLastKindBanned() {
        Cardhouse house = decksOfAllKinds();
        Check.same("ban(0, true)", house.ban(0, true), 3);
        Check.same("isAllowed with the kind 0", house.isAllowed(0), false);
        Check.same("ban(15, true)", house.ban(15, true), 2);
        Check.same("isAllowed with the kind 15", house.isAllowed(3), false);
        Check.same("isAllowed with the kinds 4 to 7", house.isAllowed(1), true);
        Check.same("isAllowed with the kinds 8 to 11", house.isAllowed(2), true);
        for (int kind = 1; kind < 15; kind++) {
            Cardhouse other = decksOfAllKinds();
            Check.same("ban of a kind between them", other.ban(kind, true), 3);
            Check.same("isAllowed with the kind " + kind, other.isAllowed(kind / 4), false);
        }
    }

    private static void bannedTwiceAndNoMore() {
        Cardhouse house = decksOfAllKinds();
        Check.same("ban(5, false), which was not banned", house.ban(5, false), 4);
        Check.same("ban(5, true)", house.ban(5, true), 3);
        Check.same("ban(5, true) again", house.ban(5, true), 3);
        Check.same("ban(6, true) in the same deck", house.ban(6, true), 3);
        Check.same("ban(5, false), but the kind 6 is banned", house.ban(5, false), 3);
        Check.same("ban(6, false)", house.ban(6, false), 4);
        Check.same("ban(6, false) again", house.ban(6, false), 4);
    }

    private static void banCounts() {
        Check.same("ban without decks", new Cardhouse().ban(0, true), 0);
        Cardhouse house = new Cardhouse();
        for (int deck = 0; deck < 12; deck++) {
            Houses.deckOf(house, deck % 6, 0, 1, 2, deck == 11 ? 4 : 3);
        }
        Check.same("ban(5, true) with all 12 allowed", house.ban(5, true), 12);
        Check.same("ban(3, true) with the last one allowed", house.ban(3, true), 1);
        Check.same("ban(4, true) with none allowed", house.ban(4, true), 0);
        Check.same("ban(3, false) with all but the last one", house.ban(3, false), 11);
    }

    private static void noSuchKind() {
        Refused.noSuchKind("ban(.., true)", (house, kind) -> house.ban(kind, true));
        Refused.noSuchKind("ban(.., false)", (house, kind) -> house.ban(kind, false));
    }

    private static void refusedBanBansNothing() {
        Cardhouse house = decksOfAllKinds();
        house.ban(9, true);
        Check.fails("ban(-1, true)", Check.INDEX, () -> house.ban(-1, true));
        Check.fails("ban(16, true)", Check.INDEX, () -> house.ban(16, true));
        Check.fails("ban(25, false)", Check.INDEX, () -> house.ban(25, false));
        for (int deck = 0; deck < 4; deck++) {
            Check.same("isAllowed(" + deck + ")", house.isAllowed(deck), deck != 2);
        }
    }

    private static void justThatMany() {
        Cardhouse house = decksBySize();
        for (int size = 4; size <= 10; size++) {
            Check.same("setFormat(" + size + ", 1)", house.setFormat(size, 1), 1);
            for (int deck = 0; deck < 8; deck++) {
                String what = "isAllowed with " + (deck + 3) + " cards, format " + size;
                Check.same(what, house.isAllowed(deck), deck + 3 == size);
            }
        }
        house.cut(7, 9);
        house.setFormat(9, 1);
        Check.same("isAllowed when a card was cut", house.isAllowed(7), true);
    }

    private static void notMoreOfAKind() {
        Cardhouse house = decksByMost();
        for (int most = 1; most <= 4; most++) {
            Check.same("setFormat(5, " + most + ")", house.setFormat(5, most), most);
            for (int deck = 0; deck < 5; deck++) {
                String what = "isAllowed with " + (deck + 1) + " of a kind, format " + most;
                Check.same(what, house.isAllowed(deck), deck + 1 <= most);
            }
        }
        Cardhouse other = new Cardhouse();
        Houses.deckOf(other, 5, 0, 0, 1, 1, 2, 2, 3, 3, 3, 3);
        Check.same("setFormat(10, 3) with four of a kind behind others", other.setFormat(10, 3), 0);
        Check.same("setFormat(10, 4) with four of a kind behind others", other.setFormat(10, 4), 1);
    }

    private static void noneOfABannedKind() {
        Cardhouse house = new Cardhouse();
        Houses.deckOf(house, 3, 0, 1, 2, 15);
        for (int kind : new int[] {0, 1, 2, 15}) {
            house.ban(kind, true);
            Check.same("isAllowed with the banned kind " + kind, house.isAllowed(0), false);
            house.ban(kind, false);
            Check.same("isAllowed with the kind " + kind + ", banned no more", house.isAllowed(0), true);
        }
        house.ban(14, true);
        Check.same("isAllowed with another kind banned", house.isAllowed(0), true);
        house.add(0, house.print(14, 3));
        house.setFormat(5, 2);
        Check.same("isAllowed with a card of it added", house.isAllowed(0), false);
        house.cut(0, 4);
        house.setFormat(4, 2);
        Check.same("isAllowed with that card cut", house.isAllowed(0), true);
    }

    private static void allInTheCollection() {
        for (int card = 0; card < 4; card++) {
            Cardhouse house = new Cardhouse();
            Houses.deckOf(house, 0, 0, 1, 2, 3);
            house.print(4, 1);
            house.offer(card, 4);
            house.offer(4, card);
            Check.same("isAllowed with the card " + card + " offered", house.isAllowed(0), true);
            house.trade();
            Check.same("isAllowed with the card " + card + " away", house.isAllowed(0), false);
            Check.same("ban, which counts, with the card " + card + " away", house.ban(15, false), 0);
            house.offer(card, 4);
            house.offer(4, card);
            house.trade();
            Check.same("isAllowed with the card " + card + " back", house.isAllowed(0), true);
        }
    }

    private static void withoutCards() {
        Cardhouse house = new Cardhouse();
        house.deck(1);
        Check.same("isAllowed without cards", house.isAllowed(0), false);
    }

    private static void firstAndLastDeck() {
        Cardhouse house = new Cardhouse();
        Houses.deckOfSize(house, 0, 4);
        for (int deck = 1; deck < 11; deck++) {
            house.deck(0);
        }
        Houses.deckOfSize(house, 5, 4);
        Check.same("isAllowed(0)", house.isAllowed(0), true);
        Check.same("isAllowed(1)", house.isAllowed(1), false);
        Check.same("isAllowed(10)", house.isAllowed(10), false);
        Check.same("isAllowed(11)", house.isAllowed(11), true);
    }

    private static void noSuchDeck() {
        Refused.noSuchDeck("isAllowed(..)", Cardhouse::isAllowed);
    }
}
