/**
 * A card house: cards that are printed with numbers, decks by limits and bans, shuffles by told
 * draws, games with triggers, wins and prices by kind, trades in rings, and what the first cards
 * of a shuffled deck may be, counted.
 *
 * All tables and working rows are made together with the object, so that no call makes another
 * object than the exception that it throws.
 */
public final class Cardhouse {
    /** There is none. */
    public static final int NONE = -1;

    private static final int COLLECTORS = 6;
    private static final int KINDS = 16;
    private static final int MOST_POWER = 9;
    private static final int MOST_TRIGGER = 3;
    private static final int MOST_CARDS = 80;
    private static final int MOST_DECKS = 12;
    private static final int MOST_OFFERS = 40;
    private static final int DECK_CARDS = 10;
    private static final int LEAST_SIZE = 4;
    private static final int MOST_OF_A_KIND = 4;
    private static final int SHORTEST_RING = 2;
    private static final int LONGEST_RING = 4;
    private static final int CARDS_TO_GO_THROUGH = 7;

    private static final int TRIGGER_POINT = 1;
    private static final int TRIGGER_GAIN = 2;
    private static final int TRIGGER_BLOCK = 3;
    private static final int GAIN = 2;

    private final Kinds kinds = new Kinds();
    private final Prints prints = new Prints();
    private final Decks decks = new Decks();
    private final Offers offers = new Offers();
    private final Pile pile = new Pile();
    private final Side firstSide = new Side();
    private final Side secondSide = new Side();

    /** No cards, decks, offers; nothing is banned. */
    public Cardhouse() {
    }

    // ---- kinds, formats, cards

    /** Sets what a kind is, and returns the power that it had. */
    public int setKind(int kind, int power, int trigger) throws IndexOutOfBoundsException, IllegalArgumentException {
        needKind(kind);
        needRange(power, 0, MOST_POWER);
        needRange(trigger, 0, MOST_TRIGGER);
        int before = kinds.power[kind];
        kinds.power[kind] = power;
        kinds.trigger[kind] = trigger;
        return before;
    }

    /** Sets the format, and returns how many decks are allowed then. */
    public int setFormat(int size, int most) throws IllegalArgumentException {
        needRange(size, LEAST_SIZE, DECK_CARDS);
        needRange(most, 1, MOST_OF_A_KIND);
        decks.formatSize = size;
        decks.formatMost = most;
        return decks.countFitting(kinds, prints);
    }

    /** Bans a kind, or no more, and returns how many decks are allowed then. */
    public int ban(int kind, boolean isBanned) throws IndexOutOfBoundsException {
        needKind(kind);
        kinds.isBanned[kind] = isBanned;
        return decks.countFitting(kinds, prints);
    }

    /** Prints a card for a collector, and returns its number. */
    public int print(int kind, int collector) throws IndexOutOfBoundsException, IllegalStateException {
        needKind(kind);
        needCollector(collector);
        if (prints.count >= MOST_CARDS) {
            throw new IllegalStateException("all cards were printed");
        }
        kinds.copies[kind]++;
        return prints.append(kind, kinds.copies[kind], collector);
    }

    // ---- decks and games

    /** Makes a deck without cards, and returns its number. */
    public int deck(int owner) throws IndexOutOfBoundsException, IllegalStateException {
        needCollector(owner);
        if (decks.count >= MOST_DECKS) {
            throw new IllegalStateException("all decks were made");
        }
        return decks.append(owner);
    }

    /** Adds a card to a deck, behind the others, and returns how many cards the deck has then. */
    public int add(int deck, int card)
            throws IndexOutOfBoundsException, IllegalArgumentException, IllegalStateException {
        needDeck(deck);
        needCard(card);
        if (prints.collector[card] != decks.owner[deck]) {
            throw new IllegalArgumentException("the owner does not have the card");
        }
        if (decks.holds(deck, card)) {
            throw new IllegalArgumentException("the card is in the deck");
        }
        if (decks.size[deck] >= DECK_CARDS) {
            throw new IllegalStateException("the deck is full");
        }
        return decks.putBehind(deck, card);
    }

    /** Takes a card out of a deck, and returns the number of the card; those behind it move up. */
    public int cut(int deck, int place) throws IndexOutOfBoundsException {
        needDeck(deck);
        needPlace(deck, place);
        return decks.takeOut(deck, place);
    }

    /** Plays a game, and returns the points of the first deck less those of the second one. */
    public int play(int first, int second, int firstSeed, int secondSeed)
            throws IndexOutOfBoundsException, IllegalArgumentException, IllegalStateException {
        needDeck(first);
        needDeck(second);
        needSeed(firstSeed);
        needSeed(secondSeed);
        if (decks.owner[first] == decks.owner[second]) {
            throw new IllegalArgumentException("both decks have the same owner");
        }
        needAllowed(first);
        needAllowed(second);
        firstSide.start(decks, first, firstSeed);
        secondSide.start(decks, second, secondSeed);
        for (int place = 0; place < decks.formatSize; place++) {
            playRound(place);
        }
        int lead = firstSide.points - secondSide.points;
        if (lead > 0) {
            giveWins(first);
        }
        if (lead < 0) {
            giveWins(second);
        }
        return lead;
    }

    // ---- offers

    /** Offers a card, and returns the number of the offer. */
    public int offer(int card, int wanted)
            throws IndexOutOfBoundsException, IllegalArgumentException, IllegalStateException {
        needCard(card);
        needKind(wanted);
        if (prints.kind[card] == wanted) {
            throw new IllegalArgumentException("the card is of the kind that is wanted");
        }
        if (offers.hasLive(card)) {
            throw new IllegalStateException("an open offer has the card");
        }
        if (offers.count >= MOST_OFFERS) {
            throw new IllegalStateException("all offers were made");
        }
        return offers.append(card, wanted, prints);
    }

    /** Takes an offer back, and returns its card. */
    public int takeBack(int offer) throws IndexOutOfBoundsException, IllegalStateException {
        needOffer(offer);
        if (!offers.isLive[offer]) {
            throw new IllegalStateException("the offer is not open");
        }
        offers.isLive[offer] = false;
        return offers.card[offer];
    }

    /** Trades the first ring, and returns how many cards are traded; 0 if there is no ring. */
    public int trade() {
        int length = offers.findRing();
        for (int place = 0; place < length; place++) {
            int offer = offers.ring[place];
            int next = offers.ring[place + 1 < length ? place + 1 : 0];
            prints.collector[offers.card[offer]] = offers.collector[next];
            offers.isLive[offer] = false;
        }
        return length;
    }

    // ---- what is asked: cards

    /** Returns how many cards were printed. */
    public int cards() {
        return prints.count;
    }

    /** Returns 100 times the kind of a card, and its print, together. */
    public int printOf(int card) throws IndexOutOfBoundsException {
        needCard(card);
        return 100 * prints.kind[card] + prints.number[card];
    }

    /** Returns the collector who has a card. */
    public int collectorOf(int card) throws IndexOutOfBoundsException {
        needCard(card);
        return prints.collector[card];
    }

    /** Returns how many cards of a kind a collector has. */
    public int has(int collector, int kind) throws IndexOutOfBoundsException {
        needCollector(collector);
        needKind(kind);
        return prints.countOf(collector, kind);
    }

    /** Returns how many wins a kind has. */
    public int wins(int kind) throws IndexOutOfBoundsException {
        needKind(kind);
        return kinds.wins[kind];
    }

    /** Returns the price of a kind. */
    public int price(int kind) throws IndexOutOfBoundsException {
        needKind(kind);
        int copies = kinds.copies[kind];
        if (copies <= 0) {
            return 0;
        }
        return (kinds.wins[kind] + 1) * 100 / copies;
    }

    // ---- what is asked: decks

    /** Tells whether a deck is allowed. */
    public boolean isAllowed(int deck) throws IndexOutOfBoundsException {
        needDeck(deck);
        return decks.fitsFormat(deck, kinds, prints);
    }

    /** Returns the number of the card at a place of a deck, shuffled. */
    public int shuffled(int deck, int seed, int place) throws IndexOutOfBoundsException, IllegalArgumentException {
        needDeck(deck);
        needPlace(deck, place);
        needSeed(seed);
        pile.shuffle(decks, deck, seed);
        return pile.cards[place];
    }

    /** Returns in how many orders of the cards of a deck some card of a kind is among the first ones. */
    public int orders(int deck, int kind, int first) throws IndexOutOfBoundsException, IllegalArgumentException {
        needDeck(deck);
        needKind(kind);
        needRange(first, 1, DECK_CARDS);
        int size = decks.size[deck];
        int others = size - decks.countOf(deck, kind, prints);
        int all = 1;
        // The orders with none of the kind in front: the factor is 0 where the others run out.
        int without = 1;
        for (int place = 0; place < size; place++) {
            all *= size - place;
            without *= place < first ? others - place : size - place;
        }
        return all - without;
    }

    /** Returns the same, by going through all orders. */
    public int ordersByAll(int deck, int kind, int first)
            throws IndexOutOfBoundsException, IllegalArgumentException, IllegalStateException {
        needDeck(deck);
        needKind(kind);
        needRange(first, 1, DECK_CARDS);
        int size = decks.size[deck];
        if (size > CARDS_TO_GO_THROUGH) {
            throw new IllegalStateException("too many orders to go through");
        }
        int ofKind = decks.placesOf(deck, kind, prints);
        return countOrders(0, size, 0, ofKind, first, false);
    }

    // ---- what is asked: offers

    /** Tells whether an offer is open. */
    public boolean isOpen(int offer) throws IndexOutOfBoundsException {
        needOffer(offer);
        return offers.isLive[offer];
    }

    /** Returns the offer at a place of the first ring; NONE if there is no ring, or it has not so many. */
    public int ring(int place) throws IndexOutOfBoundsException {
        if (place < 0) {
            throw new IndexOutOfBoundsException("no such place");
        }
        return place < offers.findRing() ? offers.ring[place] : NONE;
    }

    private static void needKind(int kind) {
        if (kind < 0 || kind >= KINDS) {
            throw new IndexOutOfBoundsException("no such kind");
        }
    }

    private static void needCollector(int collector) {
        if (collector < 0 || collector >= COLLECTORS) {
            throw new IndexOutOfBoundsException("no such collector");
        }
    }

    private void needCard(int card) {
        if (card < 0 || card >= prints.count) {
            throw new IndexOutOfBoundsException("no such card");
        }
    }

    private void needDeck(int deck) {
        if (deck < 0 || deck >= decks.count) {
            throw new IndexOutOfBoundsException("no such deck");
        }
    }

    private void needPlace(int deck, int place) {
        if (place < 0 || place >= decks.size[deck]) {
            throw new IndexOutOfBoundsException("the deck has not so many cards");
        }
    }

    private void needOffer(int offer) {
        if (offer < 0 || offer >= offers.count) {
            throw new IndexOutOfBoundsException("no such offer");
        }
    }

    private static void needRange(int number, int least, int most) {
        if (number < least || number > most) {
            throw new IllegalArgumentException("out of range");
        }
    }

    private static void needSeed(int seed) {
        if (seed < 0) {
            throw new IllegalArgumentException("the seed is out of range");
        }
    }

    private void needAllowed(int deck) {
        if (!decks.fitsFormat(deck, kinds, prints)) {
            throw new IllegalStateException("the deck is not allowed");
        }
    }

    private void playRound(int place) {
        int firstKind = prints.kind[firstSide.pile.cards[place]];
        int secondKind = prints.kind[secondSide.pile.cards[place]];
        int firstPower = kinds.power[firstKind] + firstSide.ahead;
        int secondPower = kinds.power[secondKind] + secondSide.ahead;
        int firstTrigger = kinds.trigger[firstKind];
        int secondTrigger = kinds.trigger[secondKind];
        firstSide.endRound(firstPower > secondPower, firstTrigger, secondTrigger);
        secondSide.endRound(secondPower > firstPower, secondTrigger, firstTrigger);
    }

    private void giveWins(int deck) {
        for (int kind = 0; kind < KINDS; kind++) {
            if (decks.countOf(deck, kind, prints) > 0) {
                kinds.wins[kind]++;
            }
        }
    }

    /**
     * Lays each card that is not laid yet next, and returns how many of the orders that come of it
     * have one of the kind among the first ones. The bits stand for the places of the deck.
     */
    private static int countOrders(int laid, int size, int laidBits, int kindBits, int first, boolean isSeen) {
        if (laid >= size || laid >= CARDS_TO_GO_THROUGH) {
            return isSeen ? 1 : 0;
        }
        int found = 0;
        for (int place = 0; place < size; place++) {
            int bit = 1 << place;
            if ((laidBits & bit) == 0) {
                boolean isSeenThen = isSeen || laid < first && (kindBits & bit) != 0;
                found += countOrders(laid + 1, size, laidBits | bit, kindBits, first, isSeenThen);
            }
        }
        return found;
    }

    /** What the kinds are, and what came of them. */
    private static final class Kinds {
        final int[] power = new int[KINDS];
        final int[] trigger = new int[KINDS];
        final boolean[] isBanned = new boolean[KINDS];
        final int[] copies = new int[KINDS];
        final int[] wins = new int[KINDS];
    }

    /** The cards that were printed. */
    private static final class Prints {
        final int[] kind = new int[MOST_CARDS];
        final int[] number = new int[MOST_CARDS];
        final int[] collector = new int[MOST_CARDS];
        int count;

        int append(int newKind, int newNumber, int newCollector) {
            int card = count;
            kind[card] = newKind;
            number[card] = newNumber;
            collector[card] = newCollector;
            count++;
            return card;
        }

        int countOf(int askedCollector, int askedKind) {
            int found = 0;
            for (int card = 0; card < count; card++) {
                if (collector[card] == askedCollector && kind[card] == askedKind) {
                    found++;
                }
            }
            return found;
        }
    }

    /** The decks, and the format that they are held against. */
    private static final class Decks {
        final int[] owner = new int[MOST_DECKS];
        final int[] size = new int[MOST_DECKS];
        final int[][] cards = new int[MOST_DECKS][DECK_CARDS];
        int count;
        int formatSize = LEAST_SIZE;
        int formatMost = 2;

        int append(int newOwner) {
            int deck = count;
            owner[deck] = newOwner;
            count++;
            return deck;
        }

        boolean holds(int deck, int card) {
            for (int place = 0; place < size[deck]; place++) {
                if (cards[deck][place] == card) {
                    return true;
                }
            }
            return false;
        }

        int putBehind(int deck, int card) {
            cards[deck][size[deck]] = card;
            size[deck]++;
            return size[deck];
        }

        int takeOut(int deck, int place) {
            int card = cards[deck][place];
            size[deck]--;
            for (int gap = place; gap < size[deck]; gap++) {
                cards[deck][gap] = cards[deck][gap + 1];
            }
            return card;
        }

        /** The places of the cards of a kind, as bits. */
        int placesOf(int deck, int kind, Prints prints) {
            int places = 0;
            for (int place = 0; place < size[deck]; place++) {
                if (prints.kind[cards[deck][place]] == kind) {
                    places |= 1 << place;
                }
            }
            return places;
        }

        int countOf(int deck, int kind, Prints prints) {
            return Integer.bitCount(placesOf(deck, kind, prints));
        }

        boolean fitsFormat(int deck, Kinds kinds, Prints prints) {
            if (size[deck] != formatSize) {
                return false;
            }
            for (int place = 0; place < size[deck]; place++) {
                int card = cards[deck][place];
                int kind = prints.kind[card];
                if (prints.collector[card] != owner[deck] || kinds.isBanned[kind]) {
                    return false;
                }
                if (countOf(deck, kind, prints) > formatMost) {
                    return false;
                }
            }
            return true;
        }

        int countFitting(Kinds kinds, Prints prints) {
            int found = 0;
            for (int deck = 0; deck < count; deck++) {
                if (fitsFormat(deck, kinds, prints)) {
                    found++;
                }
            }
            return found;
        }
    }

    /** The cards of a deck as they lie when it is shuffled; the deck keeps its own order. */
    private static final class Pile {
        final int[] cards = new int[DECK_CARDS];

        void shuffle(Decks decks, int deck, int seed) {
            int size = decks.size[deck];
            for (int place = 0; place < size; place++) {
                cards[place] = decks.cards[deck][place];
            }
            // The product does not fit into an int.
            long drawn = seed;
            for (int last = size - 1; last >= 1; last--) {
                drawn = (drawn * 1103515245L + 12345L) % 2147483648L;
                int other = (int) (drawn / 65536L % (last + 1));
                int card = cards[last];
                cards[last] = cards[other];
                cards[other] = card;
            }
        }
    }

    /** What one of the two decks of a game has. */
    private static final class Side {
        final Pile pile = new Pile();
        int points;
        int ahead;

        void start(Decks decks, int deck, int seed) {
            pile.shuffle(decks, deck, seed);
            points = 0;
            ahead = 0;
        }

        void endRound(boolean hasWon, int trigger, int otherTrigger) {
            // What was gained ahead counted for this round only.
            ahead = 0;
            if (hasWon) {
                points++;
            }
            if (otherTrigger == TRIGGER_BLOCK) {
                return;
            }
            if (trigger == TRIGGER_POINT && hasWon) {
                points++;
            }
            if (trigger == TRIGGER_GAIN && !hasWon) {
                ahead = GAIN;
            }
        }
    }

    /**
     * The offers. Cards move by trades of open offers alone, and no two open offers have the same
     * card; so the card of a live offer never leaves its collection, and live is open.
     */
    private static final class Offers {
        final int[] card = new int[MOST_OFFERS];
        final int[] given = new int[MOST_OFFERS];
        final int[] wanted = new int[MOST_OFFERS];
        final int[] collector = new int[MOST_OFFERS];
        final boolean[] isLive = new boolean[MOST_OFFERS];
        final int[] ring = new int[LONGEST_RING];
        int count;

        int append(int newCard, int newWanted, Prints prints) {
            int offer = count;
            card[offer] = newCard;
            given[offer] = prints.kind[newCard];
            wanted[offer] = newWanted;
            collector[offer] = prints.collector[newCard];
            isLive[offer] = true;
            count++;
            return offer;
        }

        boolean hasLive(int askedCard) {
            for (int offer = 0; offer < count; offer++) {
                if (isLive[offer] && card[offer] == askedCard) {
                    return true;
                }
            }
            return false;
        }

        /** Writes the first ring into the row, and returns how many offers it has; 0 if there is none. */
        int findRing() {
            for (int length = SHORTEST_RING; length <= LONGEST_RING; length++) {
                for (int lowest = 0; lowest < count; lowest++) {
                    ring[0] = lowest;
                    if (isLive[lowest] && closes(this, 0, length)) {
                        return length;
                    }
                }
            }
            return 0;
        }

        /** Fills the row behind the last place, lower numbers first, and tells whether it is a ring then. */
        private static boolean closes(Offers offers, int last, int length) {
            if (last >= length - 1 || last >= LONGEST_RING - 1) {
                return offers.canGive(offers.ring[last], offers.ring[0]);
            }
            for (int next = offers.ring[0] + 1; next < offers.count; next++) {
                if (offers.canFollow(last, next)) {
                    offers.ring[last + 1] = next;
                    if (closes(offers, last + 1, length)) {
                        return true;
                    }
                }
            }
            return false;
        }

        private boolean canFollow(int last, int next) {
            if (!isLive[next] || !canGive(ring[last], next)) {
                return false;
            }
            for (int place = 0; place <= last; place++) {
                if (collector[ring[place]] == collector[next]) {
                    return false;
                }
            }
            return true;
        }

        private boolean canGive(int offer, int next) {
            return given[offer] == wanted[next];
        }
    }
}
