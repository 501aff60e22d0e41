/** What goes on with a house, and so tells what can't be asked: powers, triggers, the format, bans, next numbers. */
enum Sequel implements Talk {
    KINDS {
        @Override
        public void with(Cardhouse house, Transcript said) {
            for (int i = 0; i < 16; i++) {
                int kind = i;
                said.note("setKind(" + kind + ", 1, 0)", () -> house.setKind(kind, 1, 0));
            }
        }
    },

    FORMATS {
        @Override
        public void with(Cardhouse house, Transcript said) {
            for (int i = 0; i < 7 * 4; i++) {
                int size = 4 + i / 4;
                int most = 1 + i % 4;
                said.note("setFormat(" + size + ", " + most + ")", () -> house.setFormat(size, most));
            }
        }
    },

    BANS {
        @Override
        public void with(Cardhouse house, Transcript said) {
            for (int i = 0; i < 2 * 16; i++) {
                int kind = i % 16;
                boolean isBanned = i < 16;
                said.note("ban(" + kind + ", " + isBanned + ")", () -> house.ban(kind, isBanned));
            }
        }
    },

    GAMES {
        @Override
        public void with(Cardhouse house, Transcript said) {
            for (int i = 0; i < 12 * 6; i++) {
                int first = i / 6;
                int second = i % 6;
                said.note("play(" + first + ", " + second + ", 3, 8)", () -> house.play(first, second, 3, 8));
            }
            Asked.PRICES.with(house, said);
        }
    },

    NEXT {
        @Override
        public void with(Cardhouse house, Transcript said) {
            said.note("print(3, 2)", () -> house.print(3, 2));
            said.note("deck(4)", () -> house.deck(4));
            for (int i = 0; i <= 12; i++) {
                int deck = i;
                said.note("add(" + deck + ", 20)", () -> house.add(deck, 20));
            }
            for (int i = 0; i < 32; i++) {
                int card = i;
                said.note("offer(" + card + ", 15)", () -> house.offer(card, 15));
            }
        }
    },

    CUTS {
        @Override
        public void with(Cardhouse house, Transcript said) {
            for (int i = 0; i < 12; i++) {
                int deck = i;
                boolean isThere = true;
                for (int j = 0; isThere && j <= 10; j++) {
                    isThere = said.note("cut(" + deck + ", 0)", () -> house.cut(deck, 0));
                }
            }
        }
    },

    TRADES {
        @Override
        public void with(Cardhouse house, Transcript said) {
            for (int i = 0; i < 3; i++) {
                said.note("trade()", house::trade);
            }
            Asked.COLLECTORS.with(house, said);
            for (int i = 0; i < 40; i++) {
                int offer = i;
                said.note("takeBack(" + offer + ")", () -> house.takeBack(offer));
            }
        }
    }
}
