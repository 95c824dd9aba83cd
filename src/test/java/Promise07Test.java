/** Promise 7: fetch. */
public final class Promise07Test {
    private static final Check CHECK = new Check("promise 7");

    public static void main(String[] args) {
        CHECK.runAll(Promise07Test.class);
    }

    private static BoxVault drilledUnder(int kind, int person) {
        BoxVault v = Vaults.drilled();
        v.order(0, 0, kind, person);
        return v;
    }

    /** The holder 0 is dead, and so is the heir 2; the heirs 1 and 3 are alive, and 4 is an heir of the dead heir. */
    private static BoxVault drilledOfTheDead() {
        BoxVault v = Vaults.drilled();
        v.heir(0, 1, true);
        v.heir(0, 2, true);
        v.heir(0, 3, true);
        v.heir(2, 4, true);
        v.die(0);
        v.die(2);
        return v;
    }

    static void theDaysNotPaidWhenItWasDrilledAreAnswered() {
        BoxVault v = Vaults.overdue(90);
        v.drill(0, 1, 2);
        v.pass(1000);
        CHECK.due("the fewest", 90, () -> v.fetch(0, 0));
        CHECK.due("more", 100, () -> Vaults.drilled().fetch(0, 0));
    }

    static void boxesAre0To7() {
        BoxVault v = new BoxVault();
        v.rent(0, 0, 1);
        v.rent(7, 0, 2);
        v.pass(200);
        v.drill(0, 1, 2);
        v.drill(7, 1, 2);
        CHECK.due("box 0", 199, () -> v.fetch(0, 0));
        CHECK.due("box 7", 198, () -> v.fetch(7, 0));
        for (int box : Outside.BOXES) {
            CHECK.refusesArgument("box " + box, Vaults::busy, w -> w.fetch(box, 9));
        }
    }

    static void personsAre0To15() {
        CHECK.due("person 0", 100, () -> drilledUnder(1, 0).fetch(0, 0));
        CHECK.due("person 15", 100, () -> drilledUnder(1, 15).fetch(0, 15));
        for (int person : Outside.PERSONS) {
            CHECK.refusesArgument("person " + person, Vaults::busy, v -> v.fetch(4, person));
        }
    }

    static void theBoxIsFreeThen() {
        BoxVault v = drilledUnder(1, 0);
        v.fetch(0, 0);
        CHECK.due("holder", -1, () -> v.holder(0));
        CHECK.due("binding", -1, () -> v.binding(0));
        CHECK.badState("its order holds no more", () -> Check.bit(v.lift(0)));
        CHECK.badState("fetch again", () -> v.fetch(0, 0));
        CHECK.due("rent", 102, () -> v.rent(0, 1, 1));
        CHECK.due("the new holder alone", 1, () -> v.mayAll(0));
    }

    static void proxiesEndWithIt() {
        BoxVault v = Vaults.overdue(100);
        v.proxy(0, 3, 0, 99999);
        v.drill(0, 1, 2);
        v.fetch(0, 0);
        v.rent(0, 0, 10);
        CHECK.due("the proxy of the time before", 3, () -> v.may(0, 3));
        CHECK.due("the first proxy", 1, () -> v.proxy(0, 4, 0, 99999));
    }

    static void aBoxThatIsNotDrilledIsRefused() {
        CHECK.refusesState("a box that never was rented", BoxVault::new, v -> v.fetch(0, 0));
        CHECK.refusesState("a box that is free again", Vaults::busy, v -> v.fetch(7, 3));
        CHECK.refusesState("a rented box", Vaults::busy, v -> v.fetch(0, 0));
        CHECK.refusesState("a box that can be drilled", Vaults::busy, v -> v.fetch(5, 11));
    }

    static void personsOutOfRangeComeFirst() {
        for (int person : Outside.PERSONS) {
            CHECK.refusesArgument("a free box, person " + person, Vaults::busy, v -> v.fetch(7, person));
            CHECK.refusesArgument("a rented box, person " + person, Vaults::busy, v -> v.fetch(0, person));
        }
    }

    static void whoIsNeitherHolderNorHeirIsRefused() {
        CHECK.refusesState("an heir of the living", Vaults::busy, v -> v.fetch(4, 10));
        CHECK.refusesState("a witness", Vaults::busy, v -> v.fetch(4, 1));
        CHECK.refusesState("another when the holder is dead", Promise07Test::drilledOfTheDead, v -> v.fetch(0, 5));
        CHECK.refusesState("an heir's heir", Promise07Test::drilledOfTheDead, v -> v.fetch(0, 4));
    }

    static void theDeadAreRefused() {
        CHECK.refusesState("the dead holder", Promise07Test::drilledOfTheDead, v -> v.fetch(0, 0));
        CHECK.refusesState("a dead heir", Promise07Test::drilledOfTheDead, v -> v.fetch(0, 2));
        CHECK.refusesState("the dead one of an order", () -> deadOneOfAnOrder(5), v -> v.fetch(0, 5));
        CHECK.refusesState("the dead holder by an order", () -> deadOneOfAnOrder(0), v -> v.fetch(0, 0));
    }

    private static BoxVault deadOneOfAnOrder(int person) {
        BoxVault v = drilledUnder(1, person);
        v.die(person);
        return v;
    }

    static void anHeirOfADeadHolderMay() {
        CHECK.due("an heir", 100, () -> drilledOfTheDead().fetch(0, 1));
        CHECK.due("another heir", 100, () -> drilledOfTheDead().fetch(0, 3));
    }

    static void anOrderThatNobodyMayForbidsIt() {
        CHECK.refusesState("the holder", () -> drilledUnder(0, 0), v -> v.fetch(0, 0));
        CHECK.refusesState("an heir", () -> ofTheDeadUnder(0, 1), v -> v.fetch(0, 1));
    }

    static void anOrderForOneLetsThatOneAlone() {
        CHECK.due("the one", 100, () -> drilledUnder(1, 5).fetch(0, 5));
        CHECK.refusesState("the holder", () -> drilledUnder(1, 5), v -> v.fetch(0, 0));
        CHECK.refusesState("an heir", () -> ofTheDeadUnder(1, 5), v -> v.fetch(0, 1));
    }

    static void anOrderForHeirsLetsThemIfTheHolderIsDead() {
        CHECK.due("an heir", 100, () -> ofTheDeadUnder(2, 0).fetch(0, 3));
        CHECK.refusesState("a dead heir", () -> ofTheDeadUnder(2, 0), v -> v.fetch(0, 2));
        CHECK.refusesState("another", () -> ofTheDeadUnder(2, 5), v -> v.fetch(0, 5));
        CHECK.refusesState("the living holder", () -> drilledUnder(2, 0), v -> v.fetch(0, 0));
        CHECK.refusesState("an heir of the living", Promise07Test::heirOfTheLiving, v -> v.fetch(0, 1));
    }

    private static BoxVault ofTheDeadUnder(int kind, int person) {
        BoxVault v = drilledOfTheDead();
        v.order(0, 0, kind, person);
        return v;
    }

    private static BoxVault heirOfTheLiving() {
        BoxVault v = drilledUnder(2, 0);
        v.heir(0, 1, true);
        return v;
    }

    static void anOrderOfBeforeTheDrillBinds() {
        BoxVault v = Vaults.overdue(100);
        v.order(0, 0, 1, 5);
        v.drill(0, 1, 2);
        CHECK.badState("the holder", () -> v.fetch(0, 0));
        CHECK.due("the one", 100, () -> v.fetch(0, 5));
    }

    static void onceItIsLiftedTheHolderMayAgain() {
        BoxVault v = drilledUnder(0, 0);
        v.lift(0);
        CHECK.due("the holder", 100, () -> v.fetch(0, 0));
    }
}
