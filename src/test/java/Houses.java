/** Houses that tests begin with, and what they build in them. */
final class Houses {
    private Houses() {
    }

    /**
     * Something of everything. The decks 0, 1 and 2 are allowed, 3 has too few cards, 4 too many of a kind,
     * 5 a banned kind, 6 none; the offers 0 and 1 were traded, 2 was taken back, 3, 5 and 4 are a ring.
     */
    static Cardhouse busy() {
        Cardhouse house = new Cardhouse();
        for (int kind = 0; kind < 16; kind++) {
            house.setKind(kind, (kind * 7 + 3) % 10, kind % 4);
        }
        house.setFormat(5, 2);
        deckOf(house, 0, 0, 0, 1, 1, 2);
        deckOf(house, 1, 3, 3, 4, 5, 6);
        deckOf(house, 5, 7, 8, 8, 15, 15);
        deckOf(house, 2, 9, 9);
        deckOf(house, 3, 10, 10, 10, 11, 12);
        deckOf(house, 4, 13, 14, 0, 1, 2);
        house.deck(0);
        house.ban(13, true);
        house.play(0, 1, 1, 2);
        house.play(1, 2, 3, 4);
        house.play(2, 0, 5, 6);
        house.offer(15, 10);
        house.offer(17, 9);
        house.trade();
        house.offer(16, 0);
        house.takeBack(2);
        house.offer(0, 3);
        house.offer(5, 7);
        house.offer(10, 0);
        house.offer(21, 1);
        return house;
    }

    /** All 80 cards, 12 decks and 40 offers; the decks 0, 1 and 11 have 10 cards, the others none. */
    static Cardhouse full() {
        Cardhouse house = allCards();
        for (int kind = 0; kind < 16; kind++) {
            house.setKind(kind, kind % 10, kind % 4);
        }
        house.setFormat(10, 4);
        for (int deck = 0; deck < 12; deck++) {
            house.deck(deck % 6);
            for (int place = 0; place < 10 && (deck < 2 || deck == 11); place++) {
                house.add(deck, deck % 6 + 6 * place);
            }
        }
        for (int card = 0; card < 39; card++) {
            house.offer(card, (card + 1) % 16);
        }
        // The last card has the kind 7: the offers 4, 39, 6 and 5 are a ring.
        house.offer(39, 4);
        return house;
    }

    /** All 80 cards: the card c has the kind c % 16, and is in the collection of c % 6. */
    static Cardhouse allCards() {
        Cardhouse house = new Cardhouse();
        for (int card = 0; card < 80; card++) {
            house.print(card % 16, card % 6);
        }
        return house;
    }

    /** A format of four with up to four of a kind, and two decks of four cards of the kinds 0 and 1. */
    static Cardhouse duel(int firstPower, int firstTrigger, int secondPower, int secondTrigger) {
        Cardhouse house = new Cardhouse();
        house.setFormat(4, 4);
        house.setKind(0, firstPower, firstTrigger);
        house.setKind(1, secondPower, secondTrigger);
        deckOf(house, 0, 0, 0, 0, 0);
        deckOf(house, 1, 1, 1, 1, 1);
        return house;
    }

    /** Prints a card of each kind for the owner, and makes a deck of them. */
    static int deckOf(Cardhouse house, int owner, int... kinds) {
        int deck = house.deck(owner);
        for (int kind : kinds) {
            house.add(deck, house.print(kind, owner));
        }
        return deck;
    }

    /** A deck of so many cards of the kinds from 0 on. */
    static int deckOfSize(Cardhouse house, int owner, int size) {
        int[] kinds = new int[size];
        for (int place = 0; place < size; place++) {
            kinds[place] = place;
        }
        return deckOf(house, owner, kinds);
    }

    /** A deck whose cards are of these kinds in their order when it is shuffled by the seed 0. */
    static int stackedDeckOf(Cardhouse house, int owner, int... kinds) {
        int deck = deckOf(house, owner, kinds);
        int size = kinds.length;
        int base = house.cards() - size;
        int[] cards = new int[size];
        for (int place = 0; place < size; place++) {
            cards[house.shuffled(deck, 0, place) - base] = base + place;
        }
        for (int place = 0; place < size; place++) {
            house.cut(deck, 0);
        }
        for (int card : cards) {
            house.add(deck, card);
        }
        for (int place = 0; place < size; place++) {
            Check.same("the card at " + place + " when shuffled", house.shuffled(deck, 0, place), base + place);
        }
        return deck;
    }

    /** Prints a card for a collector, and offers it. */
    static int offerOf(Cardhouse house, int collector, int kind, int wanted) {
        return house.offer(house.print(kind, collector), wanted);
    }
}
