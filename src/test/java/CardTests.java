/** Promises 5 and 13 to 16: print, cards, printOf, collectorOf, has. */
final class CardTests {
    private static final String NO_SUCH_CARD = "Throws `IndexOutOfBoundsException` if there is no such card";

    private CardTests() {
    }

    static void run() {
        Check.sentence(5, "`kind`: 0 to 15", CardTests::firstAndLastKindPrinted);
        Check.sentence(5, "`collector`: 0 to 5", CardTests::firstAndLastCollector);
        Check.sentence(5, "Cards are numbered from 0 on; at most 80 are printed.", CardTests::eightyCards);
        Check.sentence(5, "Throws `IndexOutOfBoundsException` if there is no such kind or collector",
            CardTests::noSuchKindToPrint);
        Check.sentence(5, "Throws `IndexOutOfBoundsException` if there is no such kind or collector",
            CardTests::noSuchCollectorToPrintFor);
        Check.sentence(5, "Throws `IllegalStateException` if 80 were printed", CardTests::noneBehindTheEightieth);
        Check.sentence(5, Check.FIRST_NAMED, CardTests::kindAndCollectorAreNamedFirst);
        Check.sentence(5, Check.CHANGES_NOTHING, CardTests::refusedPrintCountsNowhere);

        Check.sentence(13, "Returns how many cards were printed.", CardTests::countFromNoneToAll);

        Check.sentence(14, "which is its number among the cards of its kind, from 1 on", CardTests::printsFromOneOn);
        Check.sentence(14, "Returns 100 times its kind, and the print, together.", CardTests::kindAndPrint);
        Check.sentence(14, "`card`: its number", CardTests::firstAndLastPrint);
        Check.sentence(14, NO_SUCH_CARD, CardTests::noSuchCardToTellThePrintOf);

        Check.sentence(15, "`card`: its number", CardTests::firstAndLastCardCollected);
        Check.sentence(15, "Returns the collector who has a card.", CardTests::collectorsAfterTrades);
        Check.sentence(15, NO_SUCH_CARD, CardTests::noSuchCardToTellTheCollectorOf);

        Check.sentence(16, "`collector`: 0 to 5", CardTests::eachCollectorHas);
        Check.sentence(16, "`kind`: 0 to 15", CardTests::eachKindIsHad);
        Check.sentence(16, "Returns how many cards of a kind a collector has.", CardTests::noneAndAll);
        Check.sentence(16, "Throws `IndexOutOfBoundsException` if there is no such collector or kind",
            CardTests::noSuchCollectorToHave);
        Check.sentence(16, "Throws `IndexOutOfBoundsException` if there is no such collector or kind",
            CardTests::noSuchKindToHave);
    }

    private static void firstAndLastKindPrinted() {
        Cardhouse house = new Cardhouse();
        Check.same("print(0, 2)", house.print(0, 2), 0);
        Check.same("print(15, 2)", house.print(15, 2), 1);
        Check.same("printOf(0)", house.printOf(0), 1);
        Check.same("printOf(1)", house.printOf(1), 1501);
    }

    private static void firstAndLastCollector() {
        Cardhouse house = new Cardhouse();
        Check.same("print(4, 0)", house.print(4, 0), 0);
        Check.same("print(4, 5)", house.print(4, 5), 1);
        Check.same("collectorOf(0)", house.collectorOf(0), 0);
        Check.same("collectorOf(1)", house.collectorOf(1), 5);
    }

    private static void eightyCards() {
        Cardhouse house = new Cardhouse();
        for (int card = 0; card < 80; card++) {
            Check.same("print", house.print(card % 16, card % 6), card);
        }
        for (int card = 0; card < 80; card++) {
            Check.same("printOf(" + card + ")", house.printOf(card), card % 16 * 100 + card / 16 + 1);
            Check.same("collectorOf(" + card + ")", house.collectorOf(card), card % 6);
        }
    }

    private static void noSuchKindToPrint() {
        Refused.noSuchKind("print(.., 0)", (house, kind) -> house.print(kind, 0));
    }

    private static void noSuchCollectorToPrintFor() {
        Refused.noSuchCollector("print(0, ..)", (house, collector) -> house.print(0, collector));
    }

    private static void noneBehindTheEightieth() {
        Refused refused = new Refused(Houses::full);
        refused.state("print(0, 0) as the 81st", house -> house.print(0, 0));
        refused.state("print(15, 5) as the 81st", house -> house.print(15, 5));
        Cardhouse house = new Cardhouse();
        for (int card = 0; card < 79; card++) {
            house.print(9, 1);
        }
        Check.same("print(9, 1) as the 80th", house.print(9, 1), 79);
        Check.fails("print(9, 1) as the 81st", Check.STATE, () -> house.print(9, 1));
        Check.fails("print(8, 2) as the 81st", Check.STATE, () -> house.print(8, 2));
    }

    private static void kindAndCollectorAreNamedFirst() {
        Refused refused = new Refused(Houses::full);
        refused.index("print(16, 0) as the 81st", house -> house.print(16, 0));
        refused.index("print(-1, 0) as the 81st", house -> house.print(-1, 0));
        refused.index("print(0, 6) as the 81st", house -> house.print(0, 6));
        refused.index("print(0, -1) as the 81st", house -> house.print(0, -1));
    }

    private static void refusedPrintCountsNowhere() {
        Cardhouse house = new Cardhouse();
        house.print(3, 0);
        Check.fails("print(3, 6)", Check.INDEX, () -> house.print(3, 6));
        Check.fails("print(3, -1)", Check.INDEX, () -> house.print(3, -1));
        Check.same("cards()", house.cards(), 1);
        Check.same("price(3)", house.price(3), 100);
        Check.same("print(3, 0)", house.print(3, 0), 1);
        Check.same("printOf(1)", house.printOf(1), 302);
        for (int card = 2; card < 80; card++) {
            house.print(4, 0);
        }
        Check.fails("print(3, 0) as the 81st", Check.STATE, () -> house.print(3, 0));
        Check.same("cards()", house.cards(), 80);
        Check.same("price(3)", house.price(3), 50);
        Check.same("has(0, 3)", house.has(0, 3), 2);
        Check.fails("printOf(80)", Check.INDEX, () -> house.printOf(80));
    }

    private static void countFromNoneToAll() {
        Cardhouse house = new Cardhouse();
        for (int card = 0; card < 80; card++) {
            Check.same("cards()", house.cards(), card);
            house.print(card % 16, card % 6);
        }
        Check.same("cards() with all", house.cards(), 80);
        Check.fails("print(0, 0)", Check.STATE, () -> house.print(0, 0));
        Check.same("cards() after the one that was refused", house.cards(), 80);
        Cardhouse other = new Cardhouse();
        Houses.deckOf(other, 0, 0, 1);
        other.cut(0, 0);
        other.offer(1, 2);
        Houses.offerOf(other, 1, 2, 1);
        other.trade();
        Check.same("cards() after a cut and a trade", other.cards(), 3);
    }

    private static void printsFromOneOn() {
        Cardhouse house = new Cardhouse();
        int[] kinds = {0, 3, 3, 0, 15, 3};
        int[] prints = {1, 1, 2, 2, 1, 3};
        for (int card = 0; card < kinds.length; card++) {
            house.print(kinds[card], card);
        }
        for (int card = 0; card < kinds.length; card++) {
            Check.same("printOf(" + card + ")", house.printOf(card), kinds[card] * 100 + prints[card]);
        }
    }

    private static void kindAndPrint() {
        for (int kind : new int[] {0, 1, 7, 15}) {
            Cardhouse house = new Cardhouse();
            for (int card = 0; card < 80; card++) {
                house.print(kind, 0);
            }
            Check.same("printOf(0) of the kind " + kind, house.printOf(0), kind * 100 + 1);
            Check.same("printOf(79) of the kind " + kind, house.printOf(79), kind * 100 + 80);
        }
    }

    private static void firstAndLastPrint() {
        Cardhouse house = Houses.full();
        Check.same("printOf(0)", house.printOf(0), 1);
        Check.same("printOf(79)", house.printOf(79), 1505);
        house.trade();
        Check.same("printOf(39) after it was traded", house.printOf(39), 703);
    }

    private static void noSuchCardToTellThePrintOf() {
        Refused.noSuchCard("printOf(..)", Cardhouse::printOf);
    }

    private static void firstAndLastCardCollected() {
        Cardhouse house = Houses.full();
        Check.same("collectorOf(0)", house.collectorOf(0), 0);
        Check.same("collectorOf(79)", house.collectorOf(79), 1);
    }

    private static void collectorsAfterTrades() {
        Cardhouse house = new Cardhouse();
        for (int card = 0; card < 6; card++) {
            house.print(card, 5 - card);
        }
        for (int card = 0; card < 6; card++) {
            Check.same("collectorOf(" + card + ")", house.collectorOf(card), 5 - card);
        }
        house.offer(0, 5);
        house.offer(5, 0);
        Check.same("collectorOf(0) when it is offered", house.collectorOf(0), 5);
        house.trade();
        Check.same("collectorOf(0) after a trade", house.collectorOf(0), 0);
        Check.same("collectorOf(5) after a trade", house.collectorOf(5), 5);
        Check.same("collectorOf(1), which was not traded", house.collectorOf(1), 4);
    }

    private static void noSuchCardToTellTheCollectorOf() {
        Refused.noSuchCard("collectorOf(..)", Cardhouse::collectorOf);
    }

    private static void eachCollectorHas() {
        Cardhouse house = new Cardhouse();
        for (int collector = 0; collector < 6; collector++) {
            for (int card = 0; card <= collector; card++) {
                house.print(7, collector);
            }
        }
        for (int collector = 0; collector < 6; collector++) {
            Check.same("has(" + collector + ", 7)", house.has(collector, 7), collector + 1);
        }
    }

    private static void eachKindIsHad() {
        Cardhouse house = new Cardhouse();
        for (int kind = 0; kind < 16; kind++) {
            for (int card = 0; card <= kind % 5; card++) {
                house.print(kind, 3);
            }
        }
        for (int kind = 0; kind < 16; kind++) {
            Check.same("has(3, " + kind + ")", house.has(3, kind), kind % 5 + 1);
            Check.same("has(2, " + kind + ")", house.has(2, kind), 0);
        }
    }

    private static void noneAndAll() {
        Cardhouse house = new Cardhouse();
        Check.same("has(5, 15) of none", house.has(5, 15), 0);
        for (int card = 0; card < 78; card++) {
            house.print(15, 5);
        }
        house.print(14, 5);
        house.print(15, 4);
        Check.same("has(5, 15)", house.has(5, 15), 78);
        house.offer(78, 15);
        house.offer(79, 14);
        house.trade();
        Check.same("has(5, 15) after a trade", house.has(5, 15), 79);
        Check.same("has(5, 14) after a trade", house.has(5, 14), 0);
        Check.same("has(4, 14) after a trade", house.has(4, 14), 1);
        Check.same("has(4, 15) after a trade", house.has(4, 15), 0);
        Cardhouse other = new Cardhouse();
        for (int card = 0; card < 80; card++) {
            other.print(0, 0);
        }
        Check.same("has(0, 0) of all 80", other.has(0, 0), 80);
    }

    private static void noSuchCollectorToHave() {
        Refused.noSuchCollector("has(.., 0)", (house, collector) -> house.has(collector, 0));
        Refused.noSuchCollector("has(.., 15)", (house, collector) -> house.has(collector, 15));
    }

    private static void noSuchKindToHave() {
        Refused.noSuchKind("has(0, ..)", (house, kind) -> house.has(0, kind));
        Refused.noSuchKind("has(5, ..)", (house, kind) -> house.has(5, kind));
    }
}
