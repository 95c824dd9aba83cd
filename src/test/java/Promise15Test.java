/** Promise 15: mayAll. */
public final class Promise15Test {
    private static final Check CHECK = new Check("promise 15");

    public static void main(String[] args) {
        CHECK.runAll(Promise15Test.class);
    }

    static void boxesAre0To7() {
        BoxVault v = Vaults.rented();
        v.rent(7, 0, 10);
        v.proxy(7, 1, 0, 99999);
        CHECK.due("box 0", 1, () -> v.mayAll(0));
        CHECK.due("box 7", 2, () -> v.mayAll(7));
        for (int box : Outside.BOXES) {
            CHECK.refusesArgument("box " + box, Vaults::busy, w -> w.mayAll(box));
        }
    }

    static void nobodyMayIfTheBoxIsNotRented() {
        CHECK.due("a new box", 0, () -> new BoxVault().mayAll(0));
        CHECK.due("a box that is free again", 0, () -> Vaults.busy().mayAll(7));
        CHECK.due("a drilled box", 0, () -> Vaults.busy().mayAll(4));
        BoxVault v = Vaults.drilled();
        v.order(0, 0, 1, 5);
        CHECK.due("a drilled box with an order", 0, () -> v.mayAll(0));
    }

    static void theFirstAndTheLastPersonAreCounted() {
        BoxVault v = Vaults.rented();
        v.proxy(0, 15, 0, 99999);
        CHECK.due("0 and 15", 2, () -> v.mayAll(0));
    }

    static void aPersonWithTwoProxiesCountsOnce() {
        BoxVault v = Vaults.rented();
        v.proxy(0, 15, 0, 0);
        v.proxy(0, 15, 0, 99999);
        v.proxy(0, 14, 1, 99999);
        CHECK.due("the holder and 15", 2, () -> v.mayAll(0));
    }

    static void thoseWhoMayJustLookAreCounted() {
        BoxVault v = Vaults.rented();
        for (int heir = 1; heir < 16; heir++) {
            v.heir(0, heir, true);
        }
        CHECK.due("while the holder lives", 1, () -> v.mayAll(0));
        v.die(0);
        CHECK.due("all heirs", 15, () -> v.mayAll(0));
        v.die(15);
        CHECK.due("all living heirs", 14, () -> v.mayAll(0));
        v.enter(0, 1, 60);
        CHECK.due("after the look", 0, () -> v.mayAll(0));
    }

    static void anOrderTellsWhoIsCounted() {
        BoxVault v = Vaults.orphaned();
        v.order(0, 0, 0, 0);
        CHECK.due("nobody", 0, () -> v.mayAll(0));
        v.order(0, 0, 1, 5);
        CHECK.due("one", 1, () -> v.mayAll(0));
        v.order(0, 0, 1, 3);
        CHECK.due("a dead one", 0, () -> v.mayAll(0));
        v.order(0, 0, 2, 0);
        CHECK.due("the living heirs", 2, () -> v.mayAll(0));
        CHECK.due("another box", 2, () -> v.mayAll(1));
    }

    static void withANoticeNobodyIsCounted() {
        BoxVault v = Vaults.overdue(29);
        v.proxy(0, 1, 0, 99999);
        CHECK.due("29 days overdue", 2, () -> v.mayAll(0));
        v.pass(1);
        CHECK.due("30 days overdue", 0, () -> v.mayAll(0));
    }

    static void nothingChanges() {
        CHECK.changesNothing("a box with proxies", "2", Vaults::busy, v -> v.mayAll(0));
        CHECK.changesNothing("a box of the dead", "2", Vaults::busy, v -> v.mayAll(2));
    }
}
