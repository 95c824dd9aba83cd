/** Promise 13: enter. */
public final class Promise13Test {
    private static final Check CHECK = new Check("promise 13");

    public static void main(String[] args) {
        CHECK.runAll(Promise13Test.class);
    }

    static void constants() {
        CHECK.due("ENTERED", 0, () -> BoxVault.ENTERED);
        CHECK.due("LOOKED", 1, () -> BoxVault.LOOKED);
        CHECK.due("UNLIKE", 2, () -> BoxVault.UNLIKE);
        CHECK.due("NO_RIGHT", 3, () -> BoxVault.NO_RIGHT);
    }

    private static void comesTo(int want, String what, BoxVault v, int box, int person, int likeness) {
        CHECK.due(what, want, () -> v.enter(box, person, likeness));
    }

    static void boxesAre0To7() {
        BoxVault v = Vaults.rented();
        v.rent(7, 0, 10);
        comesTo(BoxVault.ENTERED, "box 0", v, 0, 0, 100);
        comesTo(BoxVault.ENTERED, "box 7", v, 7, 0, 100);
        for (int box : Outside.BOXES) {
            CHECK.refusesArgument("box " + box, Vaults::busy, w -> w.enter(box, 0, 100));
        }
    }

    static void personsAre0To15() {
        BoxVault v = Vaults.rented();
        v.rent(1, 15, 10);
        comesTo(BoxVault.ENTERED, "person 0", v, 0, 0, 100);
        comesTo(BoxVault.ENTERED, "person 15", v, 1, 15, 100);
        for (int person : Outside.PERSONS) {
            CHECK.refusesArgument("person " + person, Vaults::busy, w -> w.enter(0, person, 100));
        }
    }

    static void likenessIs0To100() {
        BoxVault v = Vaults.rented();
        comesTo(BoxVault.UNLIKE, "likeness 0", v, 0, 0, 0);
        comesTo(BoxVault.ENTERED, "likeness 100", v, 0, 0, 100);
        for (int likeness : Outside.LIKENESSES) {
            CHECK.refusesArgument("likeness " + likeness, Vaults::busy, w -> w.enter(0, 0, likeness));
            CHECK.refusesArgument("no right, likeness " + likeness, Vaults::busy, w -> w.enter(0, 15, likeness));
        }
    }

    static void anEntryNeedsALikenessOf60() {
        comesTo(BoxVault.UNLIKE, "59, the holder", Vaults.rented(), 0, 0, 59);
        comesTo(BoxVault.ENTERED, "60, the holder", Vaults.rented(), 0, 0, 60);
        comesTo(BoxVault.UNLIKE, "59, a proxy", Vaults.fullOfProxies(), 0, 1, 59);
        comesTo(BoxVault.ENTERED, "60, a proxy", Vaults.fullOfProxies(), 0, 1, 60);
        comesTo(BoxVault.UNLIKE, "59, by an order", Vaults.ordered(1, 5), 0, 5, 59);
        comesTo(BoxVault.ENTERED, "60, by an order", Vaults.ordered(1, 5), 0, 5, 60);
        comesTo(BoxVault.UNLIKE, "59, an heir", Vaults.orphaned(), 0, 1, 59);
        comesTo(BoxVault.LOOKED, "60, an heir", Vaults.orphaned(), 0, 1, 60);
    }

    static void whoHasNoRightIsNotUnlike() {
        comesTo(BoxVault.NO_RIGHT, "likeness 0", Vaults.rented(), 0, 1, 0);
        comesTo(BoxVault.NO_RIGHT, "likeness 59", Vaults.rented(), 0, 1, 59);
        comesTo(BoxVault.NO_RIGHT, "likeness 100", Vaults.rented(), 0, 1, 100);
    }

    static void aBoxThatIsNotRentedIsRefused() {
        CHECK.refusesState("a box that never was rented", BoxVault::new, v -> v.enter(0, 0, 100));
        CHECK.refusesState("a box that is free again", Vaults::busy, v -> v.enter(7, 3, 100));
        CHECK.refusesState("a drilled box", Vaults::busy, v -> v.enter(4, 9, 100));
        CHECK.refusesState("a free box, likeness 0", Vaults::busy, v -> v.enter(7, 3, 0));
        CHECK.refusesState("a free box, the dead", Vaults::busy, v -> v.enter(7, 5, 100));
    }

    static void argumentsOutOfRangeComeFirst() {
        CHECK.refusesArgument("free box, wrong person", Vaults::busy, v -> v.enter(7, 16, 60));
        CHECK.refusesArgument("free box, wrong likeness", Vaults::busy, v -> v.enter(7, 3, 101));
        CHECK.refusesArgument("drilled box, wrong person", Vaults::busy, v -> v.enter(4, -1, 60));
        CHECK.refusesArgument("drilled box, wrong likeness", Vaults::busy, v -> v.enter(4, 9, -1));
    }

    static void nobodyWhoIsDeadMay() {
        BoxVault v = Vaults.orphaned();
        comesTo(BoxVault.NO_RIGHT, "the dead holder", v, 0, 0, 100);
        comesTo(BoxVault.NO_RIGHT, "a dead heir", v, 0, 3, 100);
        v.order(0, 0, 2, 0);
        comesTo(BoxVault.NO_RIGHT, "a dead heir by an order", v, 0, 3, 100);
        v.order(0, 0, 1, 3);
        comesTo(BoxVault.NO_RIGHT, "the dead one of an order", v, 0, 3, 100);
        v.rent(2, 4, 10);
        v.proxy(2, 3, 0, 99999);
        comesTo(BoxVault.NO_RIGHT, "a dead proxy", v, 2, 3, 100);
    }

    static void aProxyMayFromTheFirstToTheLastDay() {
        BoxVault v = Vaults.rented();
        v.proxy(0, 1, 1, 2);
        comesTo(BoxVault.NO_RIGHT, "before", v, 0, 1, 100);
        v.pass(1);
        comesTo(BoxVault.ENTERED, "the first day", v, 0, 1, 60);
        v.pass(1);
        comesTo(BoxVault.ENTERED, "the last day", v, 0, 1, 100);
        v.pass(1);
        comesTo(BoxVault.NO_RIGHT, "afterwards", v, 0, 1, 100);
    }

    static void withANoticeNobodyMay() {
        comesTo(BoxVault.ENTERED, "29 days overdue", Vaults.overdue(29), 0, 0, 100);
        comesTo(BoxVault.NO_RIGHT, "30 days overdue", Vaults.overdue(30), 0, 0, 100);
        comesTo(BoxVault.NO_RIGHT, "100 days overdue", Vaults.overdue(100), 0, 0, 100);
        BoxVault v = Vaults.overdue(29);
        v.proxy(0, 1, 0, 99999);
        comesTo(BoxVault.ENTERED, "29 days overdue, a proxy", v, 0, 1, 100);
        v.pass(1);
        comesTo(BoxVault.NO_RIGHT, "30 days overdue, a proxy", v, 0, 1, 100);
    }

    static void noticesDoNotMatterByAnOrder() {
        BoxVault v = Vaults.overdue(100);
        v.order(0, 0, 1, 0);
        comesTo(BoxVault.ENTERED, "the one", v, 0, 0, 60);
    }

    static void noticesDoNotMatterForAWill() {
        BoxVault v = Vaults.overdue(100);
        v.heir(0, 1, true);
        v.die(0);
        comesTo(BoxVault.LOOKED, "an heir", v, 0, 1, 60);
    }

    static void anHeirLooksOnceForEachBox() {
        BoxVault v = Vaults.orphaned();
        comesTo(BoxVault.LOOKED, "the first", v, 0, 1, 60);
        comesTo(BoxVault.NO_RIGHT, "the same again", v, 0, 1, 100);
        comesTo(BoxVault.NO_RIGHT, "another heir", v, 0, 2, 100);
        comesTo(BoxVault.LOOKED, "in another box", v, 1, 2, 100);
        comesTo(BoxVault.NO_RIGHT, "in the other box again", v, 1, 1, 100);
    }

    static void anUnlikeHeirHasNotLooked() {
        BoxVault v = Vaults.orphaned();
        comesTo(BoxVault.UNLIKE, "likeness 59", v, 0, 1, 59);
        comesTo(BoxVault.LOOKED, "another heir", v, 0, 2, 60);
    }

    static void onlyAnHeirLooksAndNotOfTheLiving() {
        BoxVault v = Vaults.rented();
        v.heir(0, 1, true);
        comesTo(BoxVault.NO_RIGHT, "an heir of the living", v, 0, 1, 100);
        v.die(0);
        comesTo(BoxVault.NO_RIGHT, "another person", v, 0, 2, 100);
        comesTo(BoxVault.LOOKED, "an heir of the dead", v, 0, 1, 100);
    }

    static void anEntryByAnOrderIsNoLook() {
        BoxVault v = Vaults.orphaned();
        v.order(0, 0, 2, 0);
        comesTo(BoxVault.ENTERED, "by the order", v, 0, 1, 60);
        comesTo(BoxVault.ENTERED, "again", v, 0, 1, 60);
        v.lift(0);
        comesTo(BoxVault.LOOKED, "without it", v, 0, 1, 60);
    }

    static void nobodyMayByKind0() {
        BoxVault v = Vaults.fullOfProxies();
        v.order(0, 0, 0, 0);
        comesTo(BoxVault.NO_RIGHT, "the holder", v, 0, 0, 100);
        comesTo(BoxVault.NO_RIGHT, "a proxy", v, 0, 1, 100);
        BoxVault w = Vaults.orphaned();
        w.order(0, 0, 0, 1);
        comesTo(BoxVault.NO_RIGHT, "an heir", w, 0, 1, 100);
    }

    static void oneAloneMayByKind1() {
        BoxVault v = Vaults.fullOfProxies();
        v.order(0, 0, 1, 6);
        comesTo(BoxVault.NO_RIGHT, "the holder", v, 0, 0, 100);
        comesTo(BoxVault.NO_RIGHT, "a proxy", v, 0, 1, 100);
        comesTo(BoxVault.ENTERED, "the one", v, 0, 6, 100);
        BoxVault w = Vaults.orphaned();
        w.order(0, 0, 1, 6);
        comesTo(BoxVault.NO_RIGHT, "an heir", w, 0, 1, 100);
        comesTo(BoxVault.ENTERED, "the one, the holder dead", w, 0, 6, 100);
    }

    static void livingHeirsMayByKind2IfTheHolderIsDead() {
        BoxVault v = Vaults.fullOfProxies();
        v.heir(0, 7, true);
        v.order(0, 0, 2, 0);
        comesTo(BoxVault.NO_RIGHT, "the living holder", v, 0, 0, 100);
        comesTo(BoxVault.NO_RIGHT, "a proxy", v, 0, 1, 100);
        comesTo(BoxVault.NO_RIGHT, "an heir of the living", v, 0, 7, 100);
        v.die(0);
        comesTo(BoxVault.ENTERED, "an heir of the dead", v, 0, 7, 100);
        comesTo(BoxVault.NO_RIGHT, "another", v, 0, 1, 100);
    }
}
