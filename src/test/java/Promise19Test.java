/** Promise 19: binding. */
public final class Promise19Test {
    private static final Check CHECK = new Check("promise 19");

    public static void main(String[] args) {
        CHECK.runAll(Promise19Test.class);
    }

    static void boxesAre0To7() {
        BoxVault v = Vaults.rented();
        v.rent(7, 1, 10);
        v.order(7, 0, 0, 0);
        v.order(0, 0, 0, 0);
        CHECK.due("box 0", 1, () -> v.binding(0));
        CHECK.due("box 1", -1, () -> v.binding(1));
        CHECK.due("box 7", 0, () -> v.binding(7));
        for (int box : Outside.BOXES) {
            CHECK.refusesArgument("box " + box, Vaults::busy, w -> w.binding(box));
        }
    }

    static void withoutAnOrderNoneDoes() {
        CHECK.due("a new box", -1, () -> new BoxVault().binding(0));
        CHECK.due("a rented box", -1, () -> Vaults.rented().binding(0));
        CHECK.due("a drilled box", -1, () -> Vaults.drilled().binding(0));
        CHECK.due("a box that is free again", -1, () -> Vaults.busy().binding(7));
    }

    static void ofTheSameCourtTheLatestBinds() {
        BoxVault v = Vaults.rented();
        v.order(0, 0, 0, 0);
        v.order(0, 0, 1, 0);
        CHECK.due("two of the lower", 1, () -> v.binding(0));
        v.order(0, 1, 0, 0);
        v.order(0, 1, 2, 0);
        CHECK.due("two of the higher", 3, () -> v.binding(0));
    }

    static void theHigherCourtBindsAlsoIfItIsEarlier() {
        BoxVault v = Vaults.rented();
        v.order(0, 1, 0, 0);
        v.order(0, 0, 0, 0);
        CHECK.due("the higher first", 0, () -> v.binding(0));
        BoxVault w = Vaults.rented();
        w.order(0, 0, 0, 0);
        w.order(0, 1, 0, 0);
        CHECK.due("the lower first", 1, () -> w.binding(0));
    }

    static void aLiftedOrderDoesNot() {
        BoxVault v = Vaults.rented();
        v.order(0, 0, 0, 0);
        v.order(0, 0, 0, 0);
        v.order(0, 1, 0, 0);
        v.order(0, 1, 0, 0);
        v.lift(2);
        CHECK.due("the latest of the higher", 3, () -> v.binding(0));
        v.lift(3);
        CHECK.due("the latest of the lower", 1, () -> v.binding(0));
        v.lift(1);
        CHECK.due("the one before", 0, () -> v.binding(0));
        v.lift(0);
        CHECK.due("none", -1, () -> v.binding(0));
    }

    static void theLastOf30Does() {
        BoxVault v = Vaults.fullOfOrders();
        CHECK.due("box 0", 28, () -> v.binding(0));
        CHECK.due("box 1", 29, () -> v.binding(1));
    }

    static void anOrderForABoxThatCameFreeDoesNot() {
        BoxVault given = Vaults.ordered(1, 0);
        given.giveBack(0, 0);
        CHECK.due("given back", -1, () -> given.binding(0));
        given.rent(0, 0, 10);
        CHECK.due("rented again", -1, () -> given.binding(0));
        BoxVault fetched = Vaults.drilled();
        fetched.order(0, 1, 1, 0);
        CHECK.due("drilled", 0, () -> fetched.binding(0));
        fetched.fetch(0, 0);
        CHECK.due("fetched", -1, () -> fetched.binding(0));
    }

    static void theOrdersOfOtherBoxesHoldOn() {
        BoxVault v = Vaults.ordered(1, 0);
        v.rent(1, 1, 10);
        v.order(1, 0, 0, 0);
        v.giveBack(0, 0);
        CHECK.due("box 1", 1, () -> v.binding(1));
    }

    static void nothingChanges() {
        CHECK.changesNothing("a bound box", "2", Vaults::busy, v -> v.binding(6));
        CHECK.changesNothing("a free box", "-1", Vaults::busy, v -> v.binding(7));
    }
}
