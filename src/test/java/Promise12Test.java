/** Promise 12: lift. */
public final class Promise12Test {
    private static final Check CHECK = new Check("promise 12");

    public static void main(String[] args) {
        CHECK.runAll(Promise12Test.class);
    }

    private static void lifted(String what, boolean bound, BoxVault v, int order) {
        CHECK.due(what, Check.bit(bound), () -> Check.bit(v.lift(order)));
    }

    static void ordersAre0ToTheLastOne() {
        for (int order : new int[] {-1, 4, 29, 30, 256, -4, Integer.MIN_VALUE, Integer.MAX_VALUE}) {
            CHECK.refusesIndex("lift(" + order + ")", Vaults::busy, v -> Check.bit(v.lift(order)));
        }
        BoxVault v = Vaults.fullOfOrders();
        lifted("the last one", true, v, 29);
        lifted("the first one", false, v, 0);
    }

    static void withoutAnOrderThereIsNone() {
        CHECK.refusesIndex("lift(0) of a new object", BoxVault::new, v -> Check.bit(v.lift(0)));
        CHECK.refusesIndex("lift(0) of a rented box", Vaults::rented, v -> Check.bit(v.lift(0)));
        CHECK.refusesIndex("lift(1) with one order", () -> Vaults.ordered(0, 0), v -> Check.bit(v.lift(1)));
    }

    static void after30OrdersThereIsNo31st() {
        CHECK.refusesIndex("lift(30)", Vaults::fullOfOrders, v -> Check.bit(v.lift(30)));
        CHECK.refusesIndex("lift(-1)", Vaults::fullOfOrders, v -> Check.bit(v.lift(-1)));
    }

    static void aLiftedOrderIsRefused() {
        CHECK.refusesState("lifted before", Vaults::busy, v -> Check.bit(v.lift(3)));
        BoxVault v = Vaults.ordered(0, 0);
        lifted("once", true, v, 0);
        CHECK.badState("twice", () -> Check.bit(v.lift(0)));
    }

    static void anOrderForABoxThatCameFreeIsRefused() {
        CHECK.refusesState("after giveBack", Vaults::busy, v -> Check.bit(v.lift(0)));
        CHECK.refusesState("after fetch", Promise12Test::fetchedUnderAnOrder, v -> Check.bit(v.lift(0)));
        CHECK.refusesState("after a new rent", Promise12Test::rentedAgain, v -> Check.bit(v.lift(0)));
    }

    private static BoxVault fetchedUnderAnOrder() {
        BoxVault v = Vaults.drilled();
        v.order(0, 0, 1, 0);
        v.fetch(0, 0);
        return v;
    }

    private static BoxVault rentedAgain() {
        BoxVault v = Vaults.ordered(1, 0);
        v.giveBack(0, 0);
        v.rent(0, 0, 10);
        return v;
    }

    static void allOrdersForABoxEndWithIt() {
        BoxVault v = Vaults.rented();
        v.rent(1, 1, 10);
        v.order(0, 0, 0, 0);
        v.order(1, 0, 0, 0);
        v.order(0, 1, 1, 0);
        v.giveBack(0, 0);
        CHECK.badState("one that did not bind", () -> Check.bit(v.lift(0)));
        CHECK.badState("the one that bound", () -> Check.bit(v.lift(2)));
        lifted("one for another box", true, v, 1);
    }

    static void anOrderForADrilledBoxHolds() {
        BoxVault v = Vaults.overdue(100);
        v.order(0, 0, 1, 5);
        v.drill(0, 1, 2);
        lifted("after the drill", true, v, 0);
    }

    static void whetherItBoundIsAnswered() {
        BoxVault v = Vaults.rented();
        v.order(0, 0, 0, 0);
        v.order(0, 1, 0, 0);
        v.order(0, 0, 0, 0);
        v.order(0, 1, 0, 0);
        lifted("an earlier one of the higher court", false, v, 1);
        lifted("a later one of the lower court", false, v, 2);
        lifted("the last one of the higher court", true, v, 3);
        lifted("the one that is left", true, v, 0);
        CHECK.due("nothing binds", -1, () -> v.binding(0));
        CHECK.due("the holder may again", 0, () -> v.may(0, 0));
    }

    static void anOrderForAnotherBoxDoesNotMatter() {
        BoxVault v = Vaults.ordered(0, 0);
        v.rent(1, 1, 10);
        v.order(1, 1, 0, 0);
        lifted("the lower court's, box 0", true, v, 0);
        CHECK.due("the higher court's, box 1", 1, () -> v.binding(1));
    }
}
