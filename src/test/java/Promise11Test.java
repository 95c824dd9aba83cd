/** Promise 11: order. */
public final class Promise11Test {
    private static final Check CHECK = new Check("promise 11");

    public static void main(String[] args) {
        CHECK.runAll(Promise11Test.class);
    }

    static void boxesAre0To7() {
        BoxVault v = Vaults.rented();
        v.rent(7, 1, 10);
        CHECK.due("box 0", 0, () -> v.order(0, 0, 0, 0));
        CHECK.due("box 7", 1, () -> v.order(7, 0, 0, 0));
        CHECK.due("box 0 is bound", 0, () -> v.binding(0));
        CHECK.due("box 7 is bound", 1, () -> v.binding(7));
        for (int box : Outside.BOXES) {
            CHECK.refusesArgument("box " + box, Vaults::busy, w -> w.order(box, 0, 0, 0));
        }
    }

    static void courtsAre0And1() {
        BoxVault v = Vaults.rented();
        CHECK.due("the higher", 0, () -> v.order(0, 1, 0, 0));
        CHECK.due("the lower", 1, () -> v.order(0, 0, 0, 0));
        CHECK.due("the higher binds", 0, () -> v.binding(0));
        for (int court : Outside.COURTS) {
            CHECK.refusesArgument("court " + court, Vaults::busy, w -> w.order(0, court, 0, 0));
        }
    }

    static void kindsAre0To2() {
        BoxVault v = Vaults.orphaned();
        CHECK.due("kind 0", 0, () -> v.order(0, 0, 0, 4));
        CHECK.due("nobody may", 0, () -> v.mayAll(0));
        CHECK.due("kind 1", 1, () -> v.order(0, 0, 1, 4));
        CHECK.due("one may", 1, () -> v.mayAll(0));
        CHECK.due("it is 4", 0, () -> v.may(0, 4));
        CHECK.due("kind 2", 2, () -> v.order(0, 0, 2, 4));
        CHECK.due("two heirs may", 2, () -> v.mayAll(0));
        CHECK.due("one is 1", 0, () -> v.may(0, 1));
        for (int kind : Outside.KINDS) {
            CHECK.refusesArgument("kind " + kind, Vaults::busy, w -> w.order(0, 0, kind, 0));
        }
    }

    static void thePersonOfKind1Is0To15() {
        CHECK.due("0 may", 0, () -> Vaults.ordered(1, 0).may(0, 0));
        CHECK.due("15 may", 0, () -> Vaults.ordered(1, 15).may(0, 15));
        CHECK.due("15 alone may", 1, () -> Vaults.ordered(1, 15).mayAll(0));
        for (int person : Outside.PERSONS) {
            CHECK.refusesArgument("person " + person, Vaults::busy, v -> v.order(0, 0, 1, person));
        }
    }

    static void thePersonOfOtherKindsDoesNotMatter() {
        for (int person : Outside.PERSONS) {
            CHECK.due("kind 0, person " + person, 0, () -> Vaults.rented().order(0, 0, 0, person));
            CHECK.due("kind 2, person " + person, 0, () -> Vaults.rented().order(0, 1, 2, person));
        }
    }

    static void aFreeBoxIsRefused() {
        CHECK.refusesState("one that never was rented", BoxVault::new, v -> v.order(0, 0, 0, 0));
        CHECK.refusesState("one that is free again", Vaults::busy, v -> v.order(7, 1, 1, 3));
    }

    static void aDrilledBoxIsNotRefused() {
        BoxVault v = Vaults.drilled();
        CHECK.due("the number", 0, () -> v.order(0, 0, 1, 5));
        CHECK.due("it binds", 0, () -> v.binding(0));
        CHECK.due("the one may fetch", 100, () -> v.fetch(0, 5));
    }

    static void numbersGoOverAllBoxesUpTo29() {
        BoxVault v = new BoxVault();
        for (int box = 0; box < 8; box++) {
            v.rent(box, box, 1000);
        }
        for (int i = 0; i < 30; i++) {
            int number = i;
            CHECK.due("order " + number, number, () -> v.order(number % 8, number % 2, number % 3, 0));
        }
    }

    static void theThirtyFirstIsRefused() {
        CHECK.refusesState("for a box with orders", Vaults::fullOfOrders, v -> v.order(0, 1, 1, 0));
        CHECK.refusesState("for a box without", Promise11Test::fullAndABoxMore, v -> v.order(2, 0, 0, 0));
        CHECK.refusesState("for a free box", Vaults::fullOfOrders, v -> v.order(7, 0, 0, 0));
    }

    private static BoxVault fullAndABoxMore() {
        BoxVault v = Vaults.fullOfOrders();
        v.rent(2, 2, 1000);
        return v;
    }

    static void theThirtiethIsNot() {
        BoxVault v = Vaults.rented();
        for (int i = 0; i < 29; i++) {
            v.order(0, 0, 0, 0);
        }
        CHECK.due("the number", 29, () -> v.order(0, 0, 1, 4));
        CHECK.due("it binds", 29, () -> v.binding(0));
        CHECK.due("by its kind", 0, () -> v.may(0, 4));
    }

    static void ordersThatEndedAreCounted() {
        CHECK.refusesState("after one was lifted", Promise11Test::fullAndLifted, v -> v.order(0, 0, 0, 0));
        BoxVault v = Vaults.rented();
        for (int i = 0; i < 30; i++) {
            int number = i;
            CHECK.due("order " + number, number, () -> v.order(0, 0, 1, 0));
            v.giveBack(0, 0);
            v.rent(0, 0, 10);
        }
        CHECK.badState("after all ended", () -> v.order(0, 0, 1, 0));
    }

    private static BoxVault fullAndLifted() {
        BoxVault v = Vaults.fullOfOrders();
        v.lift(0);
        v.lift(29);
        return v;
    }

    static void refusedOrdersTakeNoNumber() {
        BoxVault v = Vaults.rented();
        CHECK.badState("a free box", () -> v.order(1, 0, 0, 0));
        CHECK.badArgument("a wrong kind", () -> v.order(0, 0, 3, 0));
        CHECK.badArgument("a wrong person", () -> v.order(0, 0, 1, 16));
        CHECK.due("the first order", 0, () -> v.order(0, 0, 0, 0));
    }

    static void argumentsOutOfRangeComeFirst() {
        CHECK.refusesArgument("free box, wrong court", Vaults::busy, v -> v.order(7, 2, 0, 0));
        CHECK.refusesArgument("free box, wrong kind", Vaults::busy, v -> v.order(7, 0, 3, 0));
        CHECK.refusesArgument("free box, wrong person", Vaults::busy, v -> v.order(7, 0, 1, 16));
        CHECK.refusesArgument("30 orders, wrong box", Vaults::fullOfOrders, v -> v.order(8, 0, 0, 0));
        CHECK.refusesArgument("30 orders, wrong court", Vaults::fullOfOrders, v -> v.order(0, -1, 0, 0));
        CHECK.refusesArgument("30 orders, wrong kind", Vaults::fullOfOrders, v -> v.order(0, 0, -1, 0));
        CHECK.refusesArgument("30 orders, wrong person", Vaults::fullOfOrders, v -> v.order(0, 0, 1, -1));
    }
}
