import java.util.ArrayList;
import java.util.Arrays;
import java.util.HashSet;
import java.util.LinkedHashMap;
import java.util.List;
import java.util.Map;
import java.util.Set;

/** The document once more, written for plainness with the Java library, to hold Cardhouse against. */
final class HouseModel {
    private static final class Card {
        int kind;
        int number;
        int collector;
    }

    private static final class Deck {
        int owner;
        final List<Integer> cards = new ArrayList<>();
    }

    private static final class Offer {
        int card;
        int collector;
        int wanted;
        boolean isBack;
        boolean isTraded;
    }

    private final int[] power = new int[16];
    private final int[] trigger = new int[16];
    private final int[] wins = new int[16];
    private final Set<Integer> banned = new HashSet<>();
    private final List<Card> cards = new ArrayList<>();
    private final List<Deck> decks = new ArrayList<>();
    private final List<Offer> offers = new ArrayList<>();
    private int size = 4;
    private int most = 2;

    int setKind(int kind, int newPower, int newTrigger) {
        index(kind, 16);
        argument(newPower >= 0 && newPower <= 9 && newTrigger >= 0 && newTrigger <= 3);
        int before = power[kind];
        power[kind] = newPower;
        trigger[kind] = newTrigger;
        return before;
    }

    int setFormat(int newSize, int newMost) {
        argument(newSize >= 4 && newSize <= 10 && newMost >= 1 && newMost <= 4);
        size = newSize;
        most = newMost;
        return allowed();
    }

    int ban(int kind, boolean isBanned) {
        index(kind, 16);
        if (isBanned) {
            banned.add(kind);
        } else {
            banned.remove(kind);
        }
        return allowed();
    }

    int print(int kind, int collector) {
        index(kind, 16);
        index(collector, 6);
        state(cards.size() < 80);
        Card card = new Card();
        card.kind = kind;
        card.collector = collector;
        card.number = 1 + (int) cards.stream().filter(other -> other.kind == kind).count();
        cards.add(card);
        return cards.size() - 1;
    }

    int deck(int owner) {
        index(owner, 6);
        state(decks.size() < 12);
        Deck deck = new Deck();
        deck.owner = owner;
        decks.add(deck);
        return decks.size() - 1;
    }

    int add(int deck, int card) {
        index(deck, decks.size());
        index(card, cards.size());
        List<Integer> in = decks.get(deck).cards;
        argument(cards.get(card).collector == decks.get(deck).owner && !in.contains(card));
        state(in.size() < 10);
        in.add(card);
        return in.size();
    }

    int cut(int deck, int place) {
        index(deck, decks.size());
        index(place, decks.get(deck).cards.size());
        return decks.get(deck).cards.remove(place);
    }

    int play(int first, int second, int firstSeed, int secondSeed) {
        index(first, decks.size());
        index(second, decks.size());
        argument(firstSeed >= 0 && secondSeed >= 0);
        argument(decks.get(first).owner != decks.get(second).owner);
        state(isAllowed(first) && isAllowed(second));
        List<Integer> one = kindsOf(order(decks.get(first).cards, firstSeed));
        List<Integer> two = kindsOf(order(decks.get(second).cards, secondSeed));
        int lead = points(one, two) - points(two, one);
        if (lead != 0) {
            new HashSet<>(lead > 0 ? one : two).forEach(kind -> wins[kind]++);
        }
        return lead;
    }

    /** The points of the one side; what the sides gain is worked out anew for each round. */
    private int points(List<Integer> own, List<Integer> theirs) {
        int points = 0;
        for (int round = 0; round < own.size(); round++) {
            if (strength(own, theirs, round) > strength(theirs, own, round)) {
                boolean hasMore = trigger[own.get(round)] == 1 && trigger[theirs.get(round)] != 3;
                points += hasMore ? 2 : 1;
            }
        }
        return points;
    }

    private int strength(List<Integer> own, List<Integer> theirs, int round) {
        int strength = power[own.get(round)];
        if (round > 0 && trigger[own.get(round - 1)] == 2 && trigger[theirs.get(round - 1)] != 3
            && strength(own, theirs, round - 1) <= strength(theirs, own, round - 1)) {
            strength += 2;
        }
        return strength;
    }

    int offer(int card, int wanted) {
        index(card, cards.size());
        index(wanted, 16);
        argument(cards.get(card).kind != wanted);
        state(offers.stream().noneMatch(other -> other.card == card && isOpen(other)));
        state(offers.size() < 40);
        Offer offer = new Offer();
        offer.card = card;
        offer.collector = cards.get(card).collector;
        offer.wanted = wanted;
        offers.add(offer);
        return offers.size() - 1;
    }

    int takeBack(int offer) {
        index(offer, offers.size());
        state(isOpen(offers.get(offer)));
        offers.get(offer).isBack = true;
        return offers.get(offer).card;
    }

    int trade() {
        List<Integer> ring = firstRing();
        for (int i = 0; i < ring.size(); i++) {
            Offer next = offers.get(ring.get((i + 1) % ring.size()));
            cards.get(offers.get(ring.get(i)).card).collector = next.collector;
        }
        ring.forEach(offer -> offers.get(offer).isTraded = true);
        return ring.size();
    }

    int cards() {
        return cards.size();
    }

    int printOf(int card) {
        index(card, cards.size());
        return cards.get(card).kind * 100 + cards.get(card).number;
    }

    int collectorOf(int card) {
        index(card, cards.size());
        return cards.get(card).collector;
    }

    int has(int collector, int kind) {
        index(collector, 6);
        index(kind, 16);
        return (int) cards.stream().filter(card -> card.kind == kind && card.collector == collector).count();
    }

    int wins(int kind) {
        index(kind, 16);
        return wins[kind];
    }

    int price(int kind) {
        index(kind, 16);
        int printed = (int) cards.stream().filter(card -> card.kind == kind).count();
        return printed == 0 ? 0 : (1 + wins[kind]) * 100 / printed;
    }

    boolean isAllowed(int deck) {
        index(deck, decks.size());
        Map<Integer, Integer> counts = new LinkedHashMap<>();
        for (int card : decks.get(deck).cards) {
            if (cards.get(card).collector != decks.get(deck).owner) {
                return false;
            }
            counts.merge(cards.get(card).kind, 1, Integer::sum);
        }
        return decks.get(deck).cards.size() == size
            && counts.values().stream().allMatch(count -> count <= most)
            && counts.keySet().stream().noneMatch(banned::contains);
    }

    int shuffled(int deck, int seed, int place) {
        index(deck, decks.size());
        index(place, decks.get(deck).cards.size());
        argument(seed >= 0);
        return order(decks.get(deck).cards, seed).get(place);
    }

    int orders(int deck, int kind, int first) {
        index(deck, decks.size());
        index(kind, 16);
        argument(first >= 1 && first <= 10);
        List<Integer> kinds = kindsOf(decks.get(deck).cards);
        return ordersOf((int) kinds.stream().filter(of -> of == kind).count(), kinds.size(), first);
    }

    /** By the first card: it is one of the kind, or the question stays for the cards behind it. */
    private static int ordersOf(int ofKind, int all, int first) {
        if (ofKind == 0 || first == 0) {
            return 0;
        }
        int behind = 1;
        for (int i = 2; i < all; i++) {
            behind *= i;
        }
        int found = ofKind * behind;
        return all == ofKind ? found : found + (all - ofKind) * ordersOf(ofKind, all - 1, first - 1);
    }

    int ordersByAll(int deck, int kind, int first) {
        int found = orders(deck, kind, first);
        state(decks.get(deck).cards.size() <= 7);
        return found;
    }

    boolean isOpen(int offer) {
        index(offer, offers.size());
        return isOpen(offers.get(offer));
    }

    int ring(int place) {
        index(place, Integer.MAX_VALUE);
        List<Integer> ring = firstRing();
        return place < ring.size() ? ring.get(place) : -1;
    }

    /** Writes down every ring from each of its offers, and keeps the first one by the document's rule. */
    private List<Integer> firstRing() {
        List<List<Integer>> chains = new ArrayList<>();
        for (int offer = 0; offer < offers.size(); offer++) {
            if (isOpen(offers.get(offer))) {
                chains.add(Arrays.asList(offer));
            }
        }
        List<List<Integer>> single = chains;
        for (int length = 2; length <= 4; length++) {
            List<List<Integer>> longer = new ArrayList<>();
            List<Integer> best = null;
            for (List<Integer> chain : chains) {
                for (List<Integer> end : single) {
                    List<Integer> next = new ArrayList<>(chain);
                    next.addAll(end);
                    if (!isChain(next)) {
                        continue;
                    }
                    longer.add(next);
                    boolean isRing = gives(next.get(length - 1), next.get(0))
                        && next.stream().allMatch(offer -> offer >= next.get(0));
                    if (isRing && (best == null || isBefore(next, best))) {
                        best = next;
                    }
                }
            }
            if (best != null) {
                return best;
            }
            chains = longer;
        }
        return new ArrayList<>();
    }

    private boolean isChain(List<Integer> chain) {
        int last = chain.size() - 1;
        Set<Integer> collectors = new HashSet<>();
        chain.forEach(offer -> collectors.add(offers.get(offer).collector));
        return collectors.size() == chain.size() && gives(chain.get(last - 1), chain.get(last));
    }

    private boolean gives(int offer, int next) {
        return cards.get(offers.get(offer).card).kind == offers.get(next).wanted;
    }

    private static boolean isBefore(List<Integer> one, List<Integer> other) {
        for (int i = 0; i < one.size(); i++) {
            if (!one.get(i).equals(other.get(i))) {
                return one.get(i) < other.get(i);
            }
        }
        return false;
    }

    private boolean isOpen(Offer offer) {
        return !offer.isBack && !offer.isTraded && cards.get(offer.card).collector == offer.collector;
    }

    private int allowed() {
        return allowedDecks().size();
    }

    List<Integer> allowedDecks() {
        List<Integer> found = new ArrayList<>();
        for (int deck = 0; deck < decks.size(); deck++) {
            if (isAllowed(deck)) {
                found.add(deck);
            }
        }
        return found;
    }

    int decks() {
        return decks.size();
    }

    /** Whether the card at the place keeps the deck from being allowed. */
    boolean isOutOfPlace(int deck, int place) {
        List<Integer> in = decks.get(deck).cards;
        if (place >= in.size()) {
            return false;
        }
        Card card = cards.get(in.get(place));
        int like = (int) in.stream().filter(other -> cards.get(other).kind == card.kind).count();
        return place >= size || card.collector != decks.get(deck).owner || banned.contains(card.kind) || like > most;
    }

    /** Whether the card can go into the deck and help it to be allowed. */
    boolean isOfUse(int deck, int card) {
        List<Integer> in = decks.get(deck).cards;
        int kind = cards.get(card).kind;
        int like = (int) in.stream().filter(other -> cards.get(other).kind == kind).count();
        return in.size() < size && like < most && !in.contains(card) && !banned.contains(kind)
            && cards.get(card).collector == decks.get(deck).owner;
    }

    private List<Integer> kindsOf(List<Integer> some) {
        List<Integer> kinds = new ArrayList<>();
        some.forEach(card -> kinds.add(cards.get(card).kind));
        return kinds;
    }

    private static List<Integer> order(List<Integer> some, int seed) {
        List<Integer> order = new ArrayList<>(some);
        long s = seed;
        for (int i = order.size() - 1; i >= 1; i--) {
            s = Math.floorMod(s * 1103515245L + 12345L, 1L << 31);
            java.util.Collections.swap(order, i, (int) ((s >> 16) % (i + 1)));
        }
        return order;
    }

    private static void index(int index, int bound) {
        if (index < 0 || index >= bound) {
            throw new IndexOutOfBoundsException();
        }
    }

    private static void argument(boolean holds) {
        if (!holds) {
            throw new IllegalArgumentException();
        }
    }

    private static void state(boolean holds) {
        if (!holds) {
            throw new IllegalStateException();
        }
    }
}
