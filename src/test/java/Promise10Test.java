/** Promise 10: die. */
public final class Promise10Test {
    private static final Check CHECK = new Check("promise 10");

    public static void main(String[] args) {
        CHECK.runAll(Promise10Test.class);
    }

    static void personsAre0To15() {
        BoxVault v = new BoxVault();
        CHECK.due("person 0", 0, () -> v.die(0));
        CHECK.due("person 15", 0, () -> v.die(15));
        for (int person : Outside.PERSONS) {
            CHECK.refusesArgument("person " + person, Vaults::busy, w -> w.die(person));
        }
    }

    static void theDeadAreRefused() {
        CHECK.refusesState("a holder", Vaults::busy, v -> v.die(5));
        CHECK.refusesState("one without a box", Vaults::busy, v -> v.die(8));
        BoxVault v = new BoxVault();
        CHECK.due("once", 0, () -> v.die(0));
        CHECK.badState("twice", () -> v.die(0));
        CHECK.due("another", 0, () -> v.die(1));
    }

    static void theRentedBoxesAreCounted() {
        CHECK.due("none", 0, () -> Vaults.busy().die(15));
        CHECK.due("one", 1, () -> Vaults.busy().die(0));
        CHECK.due("an overdue one", 1, () -> Vaults.busy().die(11));
        BoxVault v = new BoxVault();
        for (int box = 0; box < 8; box++) {
            v.rent(box, 15, 1);
        }
        CHECK.due("all", 8, () -> v.die(15));
    }

    static void drilledAndFreeBoxesAreNotCounted() {
        CHECK.due("a drilled one", 0, () -> Vaults.busy().die(9));
        CHECK.due("one that was given back", 0, () -> Vaults.busy().die(3));
        BoxVault v = Vaults.drilled();
        v.rent(7, 0, 10);
        CHECK.due("a rented one beside", 1, () -> v.die(0));
    }

    static void theDeadMayDoNothing() {
        BoxVault v = Vaults.rented();
        v.rent(1, 1, 10);
        v.proxy(1, 0, 0, 99999);
        v.heir(2, 0, true);
        v.die(0);
        CHECK.due("the holder", 3, () -> v.enter(0, 0, 100));
        CHECK.due("a proxy", 3, () -> v.enter(1, 0, 100));
        CHECK.due("refused twice", 2, () -> v.refusals(0));
        v.rent(2, 2, 10);
        v.die(2);
        CHECK.due("an heir", 3, () -> v.enter(2, 0, 100));
        v.order(1, 0, 1, 0);
        CHECK.due("one by an order", 3, () -> v.enter(1, 0, 100));
        CHECK.due("a holder still", 0, () -> v.holder(0));
    }

    static void proxiesOfTheHolderEnd() {
        BoxVault v = Vaults.fullOfProxies();
        v.rent(1, 6, 10);
        v.proxy(1, 1, 0, 99999);
        v.die(0);
        CHECK.due("of the dead", 0, () -> v.mayAll(0));
        CHECK.due("of the living", 2, () -> v.mayAll(1));
        CHECK.due("they count on", 2, () -> v.proxy(1, 2, 0, 99999));
    }

    static void proxiesForTheDeadDoNotEnd() {
        BoxVault v = Vaults.fullOfProxies();
        v.die(1);
        CHECK.due("the others may", 5, () -> v.mayAll(0));
        CHECK.badState("there are five still", () -> v.proxy(0, 6, 0, 99999));
    }

    static void heirsDoNotEnd() {
        BoxVault v = new BoxVault();
        v.heir(0, 1, true);
        v.heir(1, 2, true);
        v.die(1);
        CHECK.due("the dead as an heir", 1, () -> Check.bit(v.heir(0, 1, true)));
        CHECK.due("an heir of the dead", 1, () -> Check.bit(v.heir(1, 2, true)));
    }

    static void ordersDoNotEnd() {
        BoxVault v = Vaults.ordered(1, 5);
        v.die(0);
        CHECK.due("binding", 0, () -> v.binding(0));
        CHECK.due("the one may", 0, () -> v.may(0, 5));
        v.die(5);
        CHECK.due("binding when the one is dead", 0, () -> v.binding(0));
        CHECK.due("nobody may", 0, () -> v.mayAll(0));
    }
}
