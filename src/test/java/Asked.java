/** All that can be asked of a house, in parts, each small enough to be asked twice of one object. */
enum Asked implements Talk {
    PRINTS {
        @Override
        public void with(Cardhouse house, Transcript said) {
            said.note("cards()", house::cards);
            boolean isThere = true;
            for (int i = 0; isThere && i <= 80; i++) {
                int card = i;
                isThere = said.note("printOf(" + card + ")", () -> house.printOf(card));
            }
        }
    },

    COLLECTORS {
        @Override
        public void with(Cardhouse house, Transcript said) {
            boolean isThere = true;
            for (int i = 0; isThere && i <= 80; i++) {
                int card = i;
                isThere = said.note("collectorOf(" + card + ")", () -> house.collectorOf(card));
            }
        }
    },

    COLLECTIONS {
        @Override
        public void with(Cardhouse house, Transcript said) {
            for (int i = 0; i < 6 * 16; i++) {
                int collector = i / 16;
                int kind = i % 16;
                said.note("has(" + collector + ", " + kind + ")", () -> house.has(collector, kind));
            }
        }
    },

    PRICES {
        @Override
        public void with(Cardhouse house, Transcript said) {
            for (int i = 0; i < 16; i++) {
                int kind = i;
                said.note("wins(" + kind + ")", () -> house.wins(kind));
                said.note("price(" + kind + ")", () -> house.price(kind));
            }
        }
    },

    DECKS {
        @Override
        public void with(Cardhouse house, Transcript said) {
            boolean isThere = true;
            for (int i = 0; isThere && i <= 12; i++) {
                int deck = i;
                isThere = said.note("isAllowed(" + deck + ")", () -> house.isAllowed(deck) ? 1 : 0);
                for (int j = 0; isThere && j <= 10; j++) {
                    int place = j;
                    if (!said.note("shuffled(" + deck + ", 1, " + place + ")", () -> house.shuffled(deck, 1, place))) {
                        break;
                    }
                }
            }
        }
    },

    ORDERS {
        @Override
        public void with(Cardhouse house, Transcript said) {
            for (int i = 0; i < 12; i++) {
                int deck = i;
                for (int j = 0; j < 16; j += 3) {
                    int kind = j;
                    said.note("orders(" + deck + ", " + kind + ", 2)", () -> house.orders(deck, kind, 2));
                }
                said.note("ordersByAll(" + deck + ", 0, 1)", () -> house.ordersByAll(deck, 0, 1));
            }
        }
    },

    OFFERS {
        @Override
        public void with(Cardhouse house, Transcript said) {
            boolean isThere = true;
            for (int i = 0; isThere && i <= 40; i++) {
                int offer = i;
                isThere = said.note("isOpen(" + offer + ")", () -> house.isOpen(offer) ? 1 : 0);
            }
            for (int i = 0; i <= 4; i++) {
                int place = i;
                said.note("ring(" + place + ")", () -> house.ring(place));
            }
        }
    }
}
