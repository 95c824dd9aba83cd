/** Promise 16: holder. */
public final class Promise16Test {
    private static final Check CHECK = new Check("promise 16");

    public static void main(String[] args) {
        CHECK.runAll(Promise16Test.class);
    }

    static void boxesAre0To7() {
        BoxVault v = new BoxVault();
        v.rent(0, 15, 10);
        v.rent(7, 0, 10);
        CHECK.due("box 0", 15, () -> v.holder(0));
        CHECK.due("box 1", -1, () -> v.holder(1));
        CHECK.due("box 6", -1, () -> v.holder(6));
        CHECK.due("box 7", 0, () -> v.holder(7));
        for (int box : Outside.BOXES) {
            CHECK.refusesArgument("box " + box, Vaults::busy, w -> w.holder(box));
        }
    }

    static void aFreeBoxHasNone() {
        CHECK.due("a new one", -1, () -> new BoxVault().holder(0));
        BoxVault given = Vaults.rented();
        given.giveBack(0, 0);
        CHECK.due("given back", -1, () -> given.holder(0));
        BoxVault fetched = Vaults.drilled();
        fetched.fetch(0, 0);
        CHECK.due("fetched", -1, () -> fetched.holder(0));
    }

    static void aDrilledBoxHasOneStill() {
        BoxVault v = Vaults.drilled();
        CHECK.due("alive", 0, () -> v.holder(0));
        v.die(0);
        CHECK.due("dead", 0, () -> v.holder(0));
    }

    static void aDeadHolderIsOneStill() {
        CHECK.due("of a rented box", 0, () -> Vaults.orphaned().holder(0));
    }

    static void aProxyOrAnOrderIsNoHolder() {
        BoxVault v = Vaults.fullOfProxies();
        v.order(0, 1, 1, 9);
        v.enter(0, 9, 100);
        CHECK.due("holder", 0, () -> v.holder(0));
    }

    static void nothingChanges() {
        CHECK.changesNothing("a rented box", "12", Vaults::busy, v -> v.holder(6));
        CHECK.changesNothing("a free box", "-1", Vaults::busy, v -> v.holder(7));
    }
}
