import java.util.List;
import java.util.function.IntSupplier;

/** Runs of up to 512 calls by told draws, each answer held against the model's, and at last what can be asked. */
final class ModelTests {
    private static final int RUNS = 2000;
    private static final int CALLS = 512;
    /** A step takes up to 22 calls, and the last questions up to 200. */
    private static final int LAST_STEP = CALLS - 22 - 200;
    private static final int[] ODD_NUMBERS = {-1, Integer.MIN_VALUE, Integer.MAX_VALUE, 4, 6, 10, 11, 12, 16, 40, 80};

    private final Cardhouse house = new Cardhouse();
    private final HouseModel model = new HouseModel();
    private final int fewKinds;
    private long drawn;
    private int calls = 0;
    private boolean isSame = true;
    private int games = 0;
    private final int[] rings = new int[5];

    private ModelTests(int run) {
        drawn = run * 7919L + 17;
        int[] kinds = {16, 3, 5, 8};
        fewKinds = kinds[run % kinds.length];
    }

    static void run() {
        Check.part("the model");
        int games = 0;
        int[] rings = new int[5];
        for (int run = 0; run < RUNS; run++) {
            ModelTests one = new ModelTests(run);
            one.go(run);
            games += one.games;
            for (int length = 0; length < rings.length; length++) {
                rings[length] += one.rings[length];
            }
        }
        Check.isTrue("the runs play games: " + games, games > 5 * RUNS);
        for (int length = 2; length < rings.length; length++) {
            Check.isTrue("the runs trade rings of " + length + ": " + rings[length], rings[length] > RUNS / 100);
        }
    }

    private void go(int run) {
        int lastStep = run % 4 == 0 ? 40 + run % (LAST_STEP - 40) : LAST_STEP;
        while (calls < lastStep && isSame) {
            step();
        }
        askCards();
        switch (run % 3) {
            case 0 -> askPrints();
            case 1 -> askKinds();
            default -> askDecks();
        }
        Check.isTrue("run " + run + " differs", isSame);
        Check.isTrue("run " + run + " has " + calls + " calls", calls <= CALLS);
    }

    private int draw(int bound) {
        drawn = drawn * 6364136223846793005L + 1442695040888963407L;
        return (int) ((drawn >>> 33) % bound);
    }

    /** A number below the bound; now and then another one. */
    private int below(int bound) {
        if (bound <= 0 || draw(40) == 0) {
            return ODD_NUMBERS[draw(ODD_NUMBERS.length)];
        }
        return draw(bound);
    }

    private int kind() {
        return below(fewKinds);
    }

    private int seed() {
        return draw(30) == 0 ? -1 - draw(1000) : draw(3) == 0 ? draw(5) : draw(Integer.MAX_VALUE);
    }

    private void step() {
        int deck = below(calls < 100 ? 4 : 12);
        int other = below(calls < 100 ? 4 : 12);
        int card = below(model.cards() + (draw(20) == 0 ? 1 : 0));
        // At first cards and decks alone, so that games and trades come soon.
        switch (calls < 60 ? 3 + draw(8) : draw(20)) {
            case 0, 1 -> setKindOrFormat();
            case 2 -> ban();
            case 3, 4, 5 -> print();
            case 6 -> deck();
            case 7, 8, 9, 10 -> fill(deck, card);
            case 11 -> {
                int place = below(draw(3) == 0 ? 10 : 2);
                same("cut", () -> house.cut(deck, place), () -> model.cut(deck, place));
            }
            case 12, 13, 14 -> {
                play(deck, other);
                play(other, deck);
            }
            case 15, 16 -> {
                int wanted = kind();
                same("offer", () -> house.offer(card, wanted), () -> model.offer(card, wanted));
            }
            case 17 -> {
                int offer = below(40);
                if (draw(4) == 0) {
                    same("takeBack", () -> house.takeBack(offer), () -> model.takeBack(offer));
                }
            }
            case 18 -> rings[Math.max(0, same("trade", house::trade, model::trade))]++;
            default -> ask(deck);
        }
    }

    private void setKindOrFormat() {
        int kind = kind();
        int power = below(10);
        int trigger = below(4);
        if (draw(6) > 0) {
            same("setKind", () -> house.setKind(kind, power, trigger), () -> model.setKind(kind, power, trigger));
            return;
        }
        int size = 4 + below(draw(3) > 0 ? 2 : 7);
        int most = 1 + below(4);
        same("setFormat", () -> house.setFormat(size, most), () -> model.setFormat(size, most));
    }

    private void ban() {
        int kind = kind();
        boolean isBanned = draw(4) == 0;
        same("ban", () -> house.ban(kind, isBanned), () -> model.ban(kind, isBanned));
    }

    private void print() {
        int kind = kind();
        int collector = below(draw(2) == 0 ? 2 : 6);
        same("print", () -> house.print(kind, collector), () -> model.print(kind, collector));
    }

    private void deck() {
        int owner = below(draw(2) == 0 ? 2 : 6);
        same("deck", () -> house.deck(owner), () -> model.deck(owner));
    }

    /** Puts one card in, or mends the deck until it is allowed, as far as that can be. */
    private void fill(int deck, int card) {
        if (draw(3) == 0 || deck < 0 || deck >= model.decks()) {
            same("add", () -> house.add(deck, card), () -> model.add(deck, card));
            return;
        }
        for (int place = 9; place >= 0; place--) {
            int at = place;
            if (model.isOutOfPlace(deck, at)) {
                same("cut", () -> house.cut(deck, at), () -> model.cut(deck, at));
            }
        }
        int from = draw(80);
        for (int i = 0; i < model.cards(); i++) {
            int next = (from + i) % model.cards();
            if (model.isOfUse(deck, next)) {
                same("add", () -> house.add(deck, next), () -> model.add(deck, next));
            }
        }
    }

    private void play(int deck, int other) {
        List<Integer> allowed = model.allowedDecks();
        boolean isTold = draw(8) == 0 || allowed.isEmpty();
        int one = isTold ? deck : allowed.get(draw(allowed.size()));
        int two = isTold ? other : allowed.get(draw(allowed.size()));
        int firstSeed = seed();
        int secondSeed = seed();
        int lead = same("play", () -> house.play(one, two, firstSeed, secondSeed),
            () -> model.play(one, two, firstSeed, secondSeed));
        games += lead > -100 ? 1 : 0;
    }

    private void ask(int deck) {
        int kind = kind();
        int first = 1 + below(10);
        int place = below(10);
        int seed = seed();
        same("orders", () -> house.orders(deck, kind, first), () -> model.orders(deck, kind, first));
        same("ordersByAll", () -> house.ordersByAll(deck, kind, first), () -> model.ordersByAll(deck, kind, first));
        same("shuffled", () -> house.shuffled(deck, seed, place), () -> model.shuffled(deck, seed, place));
    }

    private void askCards() {
        same("cards", house::cards, model::cards);
        for (int i = -1; i <= 4; i++) {
            int place = i;
            same("ring", () -> house.ring(place), () -> model.ring(place));
        }
        for (int i = -1; i <= 12; i++) {
            int deck = i;
            same("isAllowed", () -> house.isAllowed(deck) ? 1 : 0, () -> model.isAllowed(deck) ? 1 : 0);
        }
    }

    private void askPrints() {
        for (int i = 0; i <= 80; i++) {
            int card = i;
            same("printOf", () -> house.printOf(card), () -> model.printOf(card));
            same("collectorOf", () -> house.collectorOf(card), () -> model.collectorOf(card));
        }
    }

    private void askKinds() {
        for (int i = -1; i <= 40; i++) {
            int number = i;
            same("wins", () -> house.wins(number), () -> model.wins(number));
            same("price", () -> house.price(number), () -> model.price(number));
            same("isOpen", () -> house.isOpen(number) ? 1 : 0, () -> model.isOpen(number) ? 1 : 0);
            same("has", () -> house.has(1, number), () -> model.has(1, number));
        }
    }

    private void askDecks() {
        int seed = seed();
        for (int i = 0; i < 12; i++) {
            for (int j = 0; j < 10; j++) {
                int deck = i;
                int place = j;
                same("shuffled", () -> house.shuffled(deck, seed, place), () -> model.shuffled(deck, seed, place));
            }
            int deck = i;
            same("orders", () -> house.orders(deck, deck, 3), () -> model.orders(deck, deck, 3));
            same("ordersByAll", () -> house.ordersByAll(deck, 0, 2), () -> model.ordersByAll(deck, 0, 2));
        }
    }

    private int same(String name, IntSupplier one, IntSupplier other) {
        calls++;
        int got = answer(one);
        int due = answer(other);
        if (got != due && isSame) {
            isSame = false;
            System.out.println("call " + calls + ", " + name + ": answered " + got + ", the model " + due);
        }
        return got;
    }

    /** The answer, or a number far below all answers for an exception. */
    private static int answer(IntSupplier call) {
        try {
            return call.getAsInt();
        } catch (RuntimeException thrown) {
            return exceptionNumber(thrown.getClass());
        }
    }

    private static int exceptionNumber(Class<?> thrown) {
        Class<?>[] known = {
            IndexOutOfBoundsException.class, IllegalArgumentException.class, IllegalStateException.class,
        };
        for (int i = 0; i < known.length; i++) {
            if (known[i] == thrown) {
                return -1000001 - i;
            }
        }
        return thrown.getName().startsWith("java") ? -2000000 - Math.floorMod(thrown.getName().hashCode(), 1000) : 0;
    }
}
