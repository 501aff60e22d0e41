/** Promises 5 and 13 to 18: print, cards, printOf, collectorOf, has, wins, price. */
final class CardTests {
    private CardTests() {
    }

    static void run() {
        print();
        printOf();
        collectorOf();
        has();
        wins();
        price();
    }

    private static void print() {
        Check.part("promises 5 and 13");
        Cardhouse house = new Cardhouse();
        for (int card = 0; card < 80; card++) {
            Check.same("cards()", house.cards(), card);
            Check.same("print", house.print(card % 16, card % 6), card);
        }
        Check.same("cards() with all", house.cards(), 80);
        Check.fails("print(0, 0) as the 81st", Check.STATE, () -> house.print(0, 0));
        Check.fails("print(16, 0) as the 81st", Check.INDEX, () -> house.print(16, 0));
        Check.fails("print(0, 6) as the 81st", Check.INDEX, () -> house.print(0, 6));
        Check.same("cards() behind those that threw", house.cards(), 80);
        Check.same("price(0) behind those that threw", house.price(0), 20);
        Check.same("has(0, 0) behind those that threw", house.has(0, 0), 2);
        Cardhouse other = new Cardhouse();
        Check.fails("print(-1, 0)", Check.INDEX, () -> other.print(-1, 0));
        Check.fails("print(16, 0)", Check.INDEX, () -> other.print(16, 0));
        Check.fails("print(0, -1)", Check.INDEX, () -> other.print(0, -1));
        Check.fails("print(0, 6)", Check.INDEX, () -> other.print(0, 6));
        Check.same("cards() of none", other.cards(), 0);
        Check.same("print(15, 5)", other.print(15, 5), 0);
        Check.same("printOf(0)", other.printOf(0), 1501);
    }

    private static void printOf() {
        Check.part("promise 14");
        Cardhouse house = new Cardhouse();
        int[] kinds = {0, 3, 3, 0, 15, 3};
        int[] due = {1, 301, 302, 2, 1501, 303};
        for (int card = 0; card < kinds.length; card++) {
            house.print(kinds[card], card);
        }
        for (int card = 0; card < kinds.length; card++) {
            Check.same("printOf(" + card + ")", house.printOf(card), due[card]);
        }
        Check.fails("printOf(-1)", Check.INDEX, () -> house.printOf(-1));
        Check.fails("printOf(6)", Check.INDEX, () -> house.printOf(6));
        Check.fails("printOf(80)", Check.INDEX, () -> house.printOf(80));
        Cardhouse one = new Cardhouse();
        for (int card = 0; card < 80; card++) {
            one.print(7, 0);
        }
        Check.same("printOf(79) of one kind", one.printOf(79), 780);
    }

    private static void collectorOf() {
        Check.part("promise 15");
        Cardhouse house = new Cardhouse();
        for (int card = 0; card < 6; card++) {
            house.print(card, 5 - card);
        }
        for (int card = 0; card < 6; card++) {
            Check.same("collectorOf(" + card + ")", house.collectorOf(card), 5 - card);
        }
        house.offer(0, 1);
        house.offer(1, 0);
        house.trade();
        Check.same("collectorOf(0) after a trade", house.collectorOf(0), 4);
        Check.same("collectorOf(1) after a trade", house.collectorOf(1), 5);
        Check.fails("collectorOf(-1)", Check.INDEX, () -> house.collectorOf(-1));
        Check.fails("collectorOf(6)", Check.INDEX, () -> house.collectorOf(6));
    }

    private static void has() {
        Check.part("promise 16");
        Cardhouse house = new Cardhouse();
        house.print(4, 1);
        house.print(4, 1);
        house.print(4, 2);
        house.print(5, 1);
        Check.same("has(1, 4)", house.has(1, 4), 2);
        Check.same("has(2, 4)", house.has(2, 4), 1);
        Check.same("has(1, 5)", house.has(1, 5), 1);
        Check.same("has(2, 5)", house.has(2, 5), 0);
        house.offer(2, 5);
        house.offer(3, 4);
        house.trade();
        Check.same("has(1, 4) after a trade", house.has(1, 4), 3);
        Check.same("has(2, 4) after a trade", house.has(2, 4), 0);
        Check.same("has(2, 5) after a trade", house.has(2, 5), 1);
        Check.same("has(5, 15)", house.has(5, 15), 0);
        Check.fails("has(-1, 0)", Check.INDEX, () -> house.has(-1, 0));
        Check.fails("has(6, 0)", Check.INDEX, () -> house.has(6, 0));
        Check.fails("has(0, -1)", Check.INDEX, () -> house.has(0, -1));
        Check.fails("has(0, 16)", Check.INDEX, () -> house.has(0, 16));
    }

    private static void wins() {
        Check.part("promise 17");
        Cardhouse house = new Cardhouse();
        Builder.deckOf(house, 0, 1, 1, 2, 15);
        Builder.deckOf(house, 1, 1, 4, 4, 5);
        house.setKind(1, 5, 0);
        house.setKind(2, 5, 0);
        house.setKind(15, 9, 0);
        for (int seed = 0; seed < 3; seed++) {
            Check.isTrue("the first deck wins", house.play(0, 1, seed, 0) > 0);
        }
        Check.same("wins(1) with two cards", house.wins(1), 3);
        Check.same("wins(2)", house.wins(2), 3);
        Check.same("wins(15)", house.wins(15), 3);
        Check.same("wins(4) of the other deck", house.wins(4), 0);
        Check.same("wins(0) of no deck", house.wins(0), 0);
        Check.isTrue("the second deck wins", house.play(1, 0, 0, 0) < 0);
        Check.same("wins(1) as the second deck", house.wins(1), 4);
        Check.same("wins(5) as the second deck", house.wins(5), 0);
        Check.fails("wins(-1)", Check.INDEX, () -> house.wins(-1));
        Check.fails("wins(16)", Check.INDEX, () -> house.wins(16));
    }

    private static void price() {
        Check.part("promise 18");
        Cardhouse house = new Cardhouse();
        house.setKind(1, 5, 0);
        Builder.deckOf(house, 0, 1, 1, 2, 2);
        Builder.deckOf(house, 1, 3, 3, 4, 4);
        Check.same("price(1) of two cards", house.price(1), 50);
        house.print(1, 4);
        Check.same("price(1) of three cards", house.price(1), 33);
        house.play(0, 1, 0, 0);
        Check.same("price(1) with a win", house.price(1), 66);
        Check.same("price(2) with a win", house.price(2), 100);
        house.play(0, 1, 1, 1);
        Check.same("price(1) with two wins", house.price(1), 100);
        Check.same("price(3) without a win", house.price(3), 50);
        Check.same("price(0) of none", house.price(0), 0);
        house.print(0, 4);
        Check.same("price(0) of one card", house.price(0), 100);
        Check.fails("price(-1)", Check.INDEX, () -> house.price(-1));
        Check.fails("price(16)", Check.INDEX, () -> house.price(16));
    }
}
