/** Promises 21 and 22: orders, ordersByAll. */
final class OrderTests {
    private OrderTests() {
    }

    static void run() {
        Check.part("promises 21 and 22");
        known();
        bothAgree();
        more();
        emptyDeck();
        wrongInputs();
    }

    private static void known() {
        Cardhouse house = new Cardhouse();
        Builder.deckOf(house, 0, 1, 2, 2, 3);
        both(house, 1, 1, 6);
        both(house, 1, 2, 12);
        both(house, 1, 3, 18);
        both(house, 1, 4, 24);
        both(house, 1, 10, 24);
        both(house, 2, 1, 12);
        both(house, 2, 2, 20);
        both(house, 2, 3, 24);
        both(house, 0, 10, 0);
        both(house, 15, 1, 0);
    }

    private static void both(Cardhouse house, int kind, int first, int due) {
        Check.same("orders(0, " + kind + ", " + first + ")", house.orders(0, kind, first), due);
        Check.same("ordersByAll(0, " + kind + ", " + first + ")", house.ordersByAll(0, kind, first), due);
    }

    private static void bothAgree() {
        for (int size = 1; size <= 7; size++) {
            for (int ofKind = 0; ofKind <= size; ofKind++) {
                Cardhouse house = new Cardhouse();
                int[] kinds = new int[size];
                for (int place = 0; place < ofKind; place++) {
                    kinds[(place * 3 + 1) % size == 0 ? place : size - 1 - place] = 5;
                }
                Builder.deckOf(house, 4, kinds);
                for (int first = 1; first <= 10; first++) {
                    String what = size + " cards, first " + first;
                    int due = counted(kinds, new boolean[size], 0, Math.min(first, size));
                    Check.same("orders of " + what, house.orders(0, 5, first), due);
                    Check.same("ordersByAll of " + what, house.ordersByAll(0, 5, first), due);
                }
            }
        }
    }

    /** Counts by looking at the front alone: what lies behind it comes in any order. */
    private static int counted(int[] kinds, boolean[] isUsed, int laid, int first) {
        if (laid == first) {
            return 0;
        }
        int found = 0;
        for (int place = 0; place < kinds.length; place++) {
            if (isUsed[place]) {
                continue;
            }
            if (kinds[place] == 5) {
                found += factorial(kinds.length - laid - 1);
                continue;
            }
            isUsed[place] = true;
            found += counted(kinds, isUsed, laid + 1, first);
            isUsed[place] = false;
        }
        return found;
    }

    private static int factorial(int number) {
        return number <= 1 ? 1 : number * factorial(number - 1);
    }

    private static void more() {
        Cardhouse house = new Cardhouse();
        Builder.deckOf(house, 0, 0, 1, 1, 1, 2, 2, 3, 4, 5, 6);
        Check.same("orders of ten, one of them, first 1", house.orders(0, 0, 1), 362880);
        Check.same("orders of ten, one of them, first 10", house.orders(0, 0, 10), 3628800);
        Check.same("orders of ten, three of them, first 2", house.orders(0, 1, 2), 3628800 - 7 * 6 * 40320);
        Check.same("orders of ten, three of them, first 8", house.orders(0, 1, 8), 3628800);
        Check.same("orders of ten, three of them, first 7", house.orders(0, 1, 7), 3628800 - 5040 * 6);
        Check.same("orders of ten, none of them", house.orders(0, 9, 10), 0);
        Check.fails("ordersByAll of ten", Check.STATE, () -> house.ordersByAll(0, 0, 1));
        house.cut(0, 9);
        house.cut(0, 8);
        Check.fails("ordersByAll of eight", Check.STATE, () -> house.ordersByAll(0, 0, 1));
        Check.fails("ordersByAll of eight, first 11", Check.ARGUMENT, () -> house.ordersByAll(0, 0, 11));
        Check.fails("ordersByAll of eight, kind 16", Check.INDEX, () -> house.ordersByAll(0, 16, 11));
        Check.same("orders of eight", house.orders(0, 0, 1), 5040);
        house.cut(0, 7);
        Check.same("ordersByAll of seven", house.ordersByAll(0, 0, 1), 720);
        Check.same("the deck stays as it was", house.cut(0, 0), 0);
        Check.same("orders then", house.orders(0, 0, 1), 0);
    }

    private static void emptyDeck() {
        Cardhouse house = new Cardhouse();
        house.deck(0);
        for (int first = 1; first <= 10; first++) {
            both(house, 0, first, 0);
        }
    }

    private static void wrongInputs() {
        Cardhouse house = new Cardhouse();
        Builder.deckOf(house, 0, 0, 1, 2);
        Check.fails("orders(-1, 0, 1)", Check.INDEX, () -> house.orders(-1, 0, 1));
        Check.fails("orders(1, 0, 1)", Check.INDEX, () -> house.orders(1, 0, 1));
        Check.fails("orders(0, -1, 1)", Check.INDEX, () -> house.orders(0, -1, 1));
        Check.fails("orders(0, 16, 0)", Check.INDEX, () -> house.orders(0, 16, 0));
        Check.fails("orders(0, 0, 0)", Check.ARGUMENT, () -> house.orders(0, 0, 0));
        Check.fails("orders(0, 0, 11)", Check.ARGUMENT, () -> house.orders(0, 0, 11));
        Check.fails("ordersByAll(-1, 0, 1)", Check.INDEX, () -> house.ordersByAll(-1, 0, 1));
        Check.fails("ordersByAll(1, 0, 0)", Check.INDEX, () -> house.ordersByAll(1, 0, 0));
        Check.fails("ordersByAll(0, -1, 1)", Check.INDEX, () -> house.ordersByAll(0, -1, 1));
        Check.fails("ordersByAll(0, 16, 1)", Check.INDEX, () -> house.ordersByAll(0, 16, 1));
        Check.fails("ordersByAll(0, 0, 0)", Check.ARGUMENT, () -> house.ordersByAll(0, 0, 0));
        Check.fails("ordersByAll(0, 0, 11)", Check.ARGUMENT, () -> house.ordersByAll(0, 0, 11));
    }
}
