import java.util.function.Consumer;
import java.util.function.ObjIntConsumer;
import java.util.function.Supplier;

/** Holds that a call is refused, and that all answers afterwards are those that were due before it. */
final class Refused {
    private final Supplier<Cardhouse> start;

    /** Each call is made on houses that begin like this. */
    Refused(Supplier<Cardhouse> start) {
        this.start = start;
    }

    /** The numbers that no deck has, where 7 were made and where all were. */
    static void noSuchDeck(String what, ObjIntConsumer<Cardhouse> call) {
        new Refused(Houses::busy).indexOutside(0, 6, what, call);
        new Refused(Houses::full).indexOutside(0, 11, what, call);
    }

    /** The numbers that no card has, where 27 were printed and where all were. */
    static void noSuchCard(String what, ObjIntConsumer<Cardhouse> call) {
        new Refused(Houses::busy).indexOutside(0, 26, what, call);
        new Refused(Houses::full).indexOutside(0, 79, what, call);
    }

    /** The numbers that no offer has, where 7 were made and where all were. */
    static void noSuchOffer(String what, ObjIntConsumer<Cardhouse> call) {
        new Refused(Houses::busy).indexOutside(0, 6, what, call);
        new Refused(Houses::full).indexOutside(0, 39, what, call);
    }

    static void noSuchKind(String what, ObjIntConsumer<Cardhouse> call) {
        new Refused(Houses::busy).indexOutside(0, 15, what, call);
    }

    static void noSuchCollector(String what, ObjIntConsumer<Cardhouse> call) {
        new Refused(Houses::busy).indexOutside(0, 5, what, call);
    }

    /** The first numbers on both sides that are not from the least to the most, and the last ones that there are. */
    void indexOutside(int least, int most, String what, ObjIntConsumer<Cardhouse> call) {
        for (int number : Check.outside(least, most)) {
            index(what + ", .. being " + number, house -> call.accept(house, number));
        }
    }

    void argumentOutside(int least, int most, String what, ObjIntConsumer<Cardhouse> call) {
        for (int number : Check.outside(least, most)) {
            argument(what + ", .. being " + number, house -> call.accept(house, number));
        }
    }

    void index(String what, Consumer<Cardhouse> call) {
        refuse(what, Check.INDEX, call);
    }

    void argument(String what, Consumer<Cardhouse> call) {
        refuse(what, Check.ARGUMENT, call);
    }

    void state(String what, Consumer<Cardhouse> call) {
        refuse(what, Check.STATE, call);
    }

    private void refuse(String what, Class<? extends RuntimeException> due, Consumer<Cardhouse> call) {
        for (Asked asked : Asked.values()) {
            Cardhouse house = start.get();
            Transcript before = Talk.of(asked, house);
            Check.fails(what, due, () -> call.accept(house));
            Talk.of(asked, house).isLike(before, "asked after the refused " + what);
        }
        for (Sequel sequel : Sequel.values()) {
            Cardhouse house = start.get();
            Check.fails(what, due, () -> call.accept(house));
            Talk.of(sequel, house).isLike(Talk.of(sequel, start.get()), "called after the refused " + what);
        }
    }
}
