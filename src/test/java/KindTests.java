/** Promise 2: setKind. */
final class KindTests {
    private KindTests() {
    }

    static void run() {
        Check.sentence(2, "Sets what a kind is.", KindTests::holdsFromThenOn);
        Check.sentence(2, "`kind`: 0 to 15", KindTests::firstAndLastKind);
        Check.sentence(2, "`power`: 0 to 9", KindTests::leastAndGreatestPower);
        Check.sentence(2, "`trigger`: 0 to 3", KindTests::allTriggers);
        Check.sentence(2, "Returns the power that it had.", KindTests::powerBefore);
        Check.sentence(2, "Throws `IndexOutOfBoundsException` if there is no such kind", KindTests::noSuchKind);
        Check.sentence(2, "Throws `IllegalArgumentException` if power or trigger is out of range",
            KindTests::powerOutOfRange);
        Check.sentence(2, "Throws `IllegalArgumentException` if power or trigger is out of range",
            KindTests::triggerOutOfRange);
        Check.sentence(2, Check.FIRST_NAMED, KindTests::kindIsNamedFirst);
        Check.sentence(2, Check.CHANGES_NOTHING, KindTests::refusedCallSetsNothing);
    }

    private static void holdsFromThenOn() {
        Cardhouse house = Houses.duel(5, 0, 4, 0);
        Check.same("play before", house.play(0, 1, 0, 0), 4);
        house.setKind(0, 3, 0);
        Check.same("play with less power", house.play(0, 1, 0, 0), -4);
        house.setKind(1, 4, 1);
        Check.same("play with a trigger", house.play(0, 1, 0, 0), -8);
        house.setKind(1, 4, 0);
        Check.same("play without it again", house.play(0, 1, 0, 0), -4);
    }

    private static void firstAndLastKind() {
        Cardhouse house = new Cardhouse();
        Check.same("setKind(0, 3, 0)", house.setKind(0, 3, 0), 0);
        Check.same("setKind(15, 4, 0)", house.setKind(15, 4, 0), 0);
        for (int kind = 1; kind < 15; kind++) {
            Check.same("setKind of a kind between them", house.setKind(kind, 5, 0), 0);
        }
        Check.same("setKind(0, 0, 0)", house.setKind(0, 0, 0), 3);
        Check.same("setKind(15, 0, 0)", house.setKind(15, 0, 0), 4);
    }

    private static void leastAndGreatestPower() {
        Cardhouse house = Houses.duel(9, 0, 8, 0);
        Check.same("play of 9 and 8", house.play(0, 1, 0, 0), 4);
        Check.same("setKind(1, 9, 0)", house.setKind(1, 9, 0), 8);
        Check.same("play of 9 and 9", house.play(0, 1, 0, 0), 0);
        Check.same("setKind(0, 0, 0)", house.setKind(0, 0, 0), 9);
        Check.same("setKind(1, 0, 0)", house.setKind(1, 0, 0), 9);
        Check.same("play of 0 and 0", house.play(0, 1, 0, 0), 0);
        Check.same("setKind(1, 1, 0)", house.setKind(1, 1, 0), 0);
        Check.same("play of 0 and 1", house.play(0, 1, 0, 0), -4);
    }

    private static void allTriggers() {
        Check.same("play with the trigger 0", Houses.duel(5, 0, 4, 0).play(0, 1, 0, 0), 4);
        Check.same("play with the trigger 1", Houses.duel(5, 1, 4, 0).play(0, 1, 0, 0), 8);
        Check.same("play with the trigger 2", Houses.duel(5, 0, 4, 2).play(0, 1, 0, 0), 0);
        Check.same("play with the trigger 3", Houses.duel(5, 1, 4, 3).play(0, 1, 0, 0), 4);
    }

    private static void powerBefore() {
        Cardhouse house = new Cardhouse();
        for (int kind = 0; kind < 16; kind++) {
            Check.same("setKind at first", house.setKind(kind, kind % 10, kind % 4), 0);
        }
        for (int kind = 0; kind < 16; kind++) {
            Check.same("setKind then", house.setKind(kind, 9 - kind % 10, 3), kind % 10);
        }
        for (int kind = 0; kind < 16; kind++) {
            Check.same("setKind then", house.setKind(kind, 0, 0), 9 - kind % 10);
        }
    }

    private static void noSuchKind() {
        Refused.noSuchKind("setKind(.., 5, 1)", (house, kind) -> house.setKind(kind, 5, 1));
    }

    private static void powerOutOfRange() {
        Refused refused = new Refused(Houses::busy);
        refused.argumentOutside(0, 9, "setKind(0, .., 0)", (house, power) -> house.setKind(0, power, 0));
        refused.argumentOutside(0, 9, "setKind(15, .., 3)", (house, power) -> house.setKind(15, power, 3));
    }

    private static void triggerOutOfRange() {
        Refused refused = new Refused(Houses::busy);
        refused.argumentOutside(0, 3, "setKind(0, 0, ..)", (house, trigger) -> house.setKind(0, 0, trigger));
        refused.argumentOutside(0, 3, "setKind(15, 9, ..)", (house, trigger) -> house.setKind(15, 9, trigger));
        refused.argument("setKind(0, 10, 4)", house -> house.setKind(0, 10, 4));
    }

    private static void kindIsNamedFirst() {
        Refused refused = new Refused(Houses::busy);
        refused.index("setKind(16, 10, 0)", house -> house.setKind(16, 10, 0));
        refused.index("setKind(-1, -1, 0)", house -> house.setKind(-1, -1, 0));
        refused.index("setKind(16, 0, 4)", house -> house.setKind(16, 0, 4));
        refused.index("setKind(-1, 0, -1)", house -> house.setKind(-1, 0, -1));
    }

    private static void refusedCallSetsNothing() {
        for (int trigger = 0; trigger <= 3; trigger++) {
            int asked = trigger;
            Cardhouse house = Houses.duel(5, 0, 4, 0);
            Check.fails("setKind(0, 10, " + asked + ")", Check.ARGUMENT, () -> house.setKind(0, 10, asked));
            Check.fails("setKind(1, 10, " + asked + ")", Check.ARGUMENT, () -> house.setKind(1, 10, asked));
            Check.same("play by the triggers as they were", house.play(0, 1, 0, 0), 4);
        }
        Cardhouse house = Houses.duel(5, 1, 4, 0);
        Check.fails("setKind(0, 3, 4)", Check.ARGUMENT, () -> house.setKind(0, 3, 4));
        Check.fails("setKind(0, 3, -1)", Check.ARGUMENT, () -> house.setKind(0, 3, -1));
        Check.same("play by the power as it was", house.play(0, 1, 0, 0), 8);
        Check.same("setKind(0, 0, 0)", house.setKind(0, 0, 0), 5);
    }
}
