/** Promise 9: heir. */
public final class Promise09Test {
    private static final Check CHECK = new Check("promise 9");

    public static void main(String[] args) {
        CHECK.runAll(Promise09Test.class);
    }

    private static void told(String what, boolean want, BoxVault v, int person, int heir, boolean is) {
        CHECK.due(what, Check.bit(want), () -> Check.bit(v.heir(person, heir, is)));
    }

    static void whetherItWasOneIsAnswered() {
        BoxVault v = new BoxVault();
        told("none, and none then", false, v, 0, 15, false);
        told("none, and one then", false, v, 0, 15, true);
        told("one, and one then", true, v, 0, 15, true);
        told("one, and none then", true, v, 0, 15, false);
        told("none again", false, v, 0, 15, false);
    }

    static void personsAre0To15() {
        BoxVault v = new BoxVault();
        told("heir 15 of 0", false, v, 0, 15, true);
        told("heir 0 of 15", false, v, 15, 0, true);
        told("15 is one of 0", true, v, 0, 15, true);
        told("0 is one of 15", true, v, 15, 0, true);
        for (int person : Outside.PERSONS) {
            CHECK.refusesArgument("of " + person, Vaults::busy, w -> Check.bit(w.heir(person, 1, true)));
        }
    }

    static void heirsAre0To15() {
        for (int heir : Outside.PERSONS) {
            CHECK.refusesArgument("to " + heir, Vaults::busy, v -> Check.bit(v.heir(1, heir, true)));
            CHECK.refusesArgument("no more to " + heir, Vaults::busy, v -> Check.bit(v.heir(5, heir, false)));
        }
    }

    static void nobodyIsTheirOwnHeir() {
        for (int i = 0; i < 16; i++) {
            int person = i;
            CHECK.refusesArgument("of and to " + person, Vaults::busy, v -> Check.bit(v.heir(person, person, true)));
        }
        CHECK.refusesArgument("that it is not one", Vaults::busy, v -> Check.bit(v.heir(5, 5, false)));
        for (int person : Outside.PERSONS) {
            CHECK.refusesArgument("of and to " + person, Vaults::busy, v -> Check.bit(v.heir(person, person, true)));
        }
    }

    static void allOthersMayBeHeirs() {
        BoxVault v = Vaults.rented();
        for (int heir = 1; heir < 16; heir++) {
            told("heir " + heir, false, v, 0, heir, true);
        }
        v.die(0);
        CHECK.due("all may look", 15, () -> v.mayAll(0));
        told("one less", true, v, 0, 7, false);
        CHECK.due("all others may look", 14, () -> v.mayAll(0));
        CHECK.due("this one may not", 3, () -> v.may(0, 7));
    }

    static void itGoesOneWay() {
        BoxVault v = new BoxVault();
        told("1 of 0", false, v, 0, 1, true);
        told("0 of 1", false, v, 1, 0, false);
        told("1 of 2", false, v, 2, 1, false);
        told("1 of 0 still", true, v, 0, 1, true);
    }

    static void alsoIfThatOneIsDead() {
        BoxVault v = Vaults.orphaned();
        told("a new heir", false, v, 0, 4, true);
        CHECK.due("it may look", 1, () -> v.may(0, 4));
        told("no heir from now on", true, v, 0, 1, false);
        CHECK.due("it may look no more", 3, () -> v.may(0, 1));
    }

    static void alsoIfTheHeirIsDead() {
        BoxVault v = Vaults.orphaned();
        told("it was one", true, v, 0, 3, false);
        told("it was none", false, v, 0, 3, true);
        CHECK.due("it may not look", 3, () -> v.may(0, 3));
    }
}
