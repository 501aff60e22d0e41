/** Builds what several tests begin with. */
final class Builder {
    private Builder() {
    }

    /** Prints a card of each kind for the owner, and makes a deck of them. */
    static int deckOf(Cardhouse house, int owner, int... kinds) {
        int deck = house.deck(owner);
        for (int kind : kinds) {
            house.add(deck, house.print(kind, owner));
        }
        return deck;
    }

    /** Prints a card for a collector, and offers it. */
    static int offerOf(Cardhouse house, int collector, int kind, int wanted) {
        return house.offer(house.print(kind, collector), wanted);
    }
}
