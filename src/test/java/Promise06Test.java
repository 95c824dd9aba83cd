/** Promise 6: drill. */
public final class Promise06Test {
    private static final Check CHECK = new Check("promise 6");

    public static void main(String[] args) {
        CHECK.runAll(Promise06Test.class);
    }

    static void boxesAre0To7() {
        BoxVault v = new BoxVault();
        v.rent(0, 0, 1);
        v.rent(7, 0, 2);
        v.pass(200);
        CHECK.due("box 0", 199, () -> v.drill(0, 1, 2));
        CHECK.due("box 7", 198, () -> v.drill(7, 1, 2));
        for (int box : Outside.BOXES) {
            CHECK.refusesArgument("box " + box, Vaults::busy, w -> w.drill(box, 1, 2));
        }
    }

    static void witnessesAre0To15() {
        BoxVault v = new BoxVault();
        v.rent(0, 1, 1);
        v.rent(1, 1, 1);
        v.pass(200);
        CHECK.due("one is 0, the other 15", 199, () -> v.drill(0, 0, 15));
        CHECK.due("one is 15, the other 0", 199, () -> v.drill(1, 15, 0));
        for (int person : Outside.PERSONS) {
            CHECK.refusesArgument("one is " + person, Vaults::busy, w -> w.drill(5, person, 2));
            CHECK.refusesArgument("the other is " + person, Vaults::busy, w -> w.drill(5, 1, person));
        }
    }

    static void witnessesAreDifferent() {
        CHECK.refusesArgument("both are 0", Vaults::busy, v -> v.drill(5, 0, 0));
        CHECK.refusesArgument("both are 15", Vaults::busy, v -> v.drill(5, 15, 15));
        CHECK.refusesArgument("both are 16", Vaults::busy, v -> v.drill(5, 16, 16));
    }

    static void theDaysOverdueAreAnswered() {
        CHECK.due("90 days", 90, () -> Vaults.overdue(90).drill(0, 1, 2));
        CHECK.due("91 days", 91, () -> Vaults.overdue(91).drill(0, 1, 2));
        CHECK.due("120 days", 120, () -> Vaults.overdue(120).drill(0, 1, 2));
        CHECK.due("999 days", 999, () -> Vaults.overdue(999).drill(0, 1, 2));
    }

    static void aBoxWithFewerThan3NoticesIsRefused() {
        CHECK.refusesState("not overdue", Vaults::rented, v -> v.drill(0, 1, 2));
        CHECK.refusesState("60 days overdue", () -> Vaults.overdue(60), v -> v.drill(0, 1, 2));
        CHECK.refusesState("89 days overdue", () -> Vaults.overdue(89), v -> v.drill(0, 1, 2));
    }

    static void aBoxThatIsNotRentedIsRefused() {
        CHECK.refusesState("a box that never was rented", () -> Vaults.onDay(500), v -> v.drill(0, 1, 2));
        CHECK.refusesState("a box that is free again", Vaults::busy, v -> v.drill(7, 1, 2));
        CHECK.refusesState("a drilled box", Vaults::busy, v -> v.drill(4, 1, 2));
    }

    static void aDeadWitnessIsRefused() {
        CHECK.refusesState("the one is dead", Vaults::busy, v -> v.drill(5, 8, 2));
        CHECK.refusesState("the other is dead", Vaults::busy, v -> v.drill(5, 1, 8));
    }

    static void theHolderAsAWitnessIsRefused() {
        CHECK.refusesState("the one is the holder", Vaults::busy, v -> v.drill(5, 11, 2));
        CHECK.refusesState("the other is the holder", Vaults::busy, v -> v.drill(5, 1, 11));
    }

    static void aDeadHoldersBoxMayBeDrilled() {
        BoxVault v = Vaults.overdue(100);
        v.heir(0, 1, true);
        v.die(0);
        CHECK.badState("the dead holder as a witness", () -> v.drill(0, 0, 2));
        CHECK.due("an heir as a witness", 100, () -> v.drill(0, 1, 2));
        CHECK.due("a holder still", 0, () -> v.holder(0));
    }

    static void anOrderThatNobodyMayEnterForbidsIt() {
        CHECK.refusesState("of the lower court", () -> overdueUnder(0, 0), v -> v.drill(0, 1, 2));
        CHECK.refusesState("of the higher court", () -> overdueUnder(1, 0), v -> v.drill(0, 1, 2));
    }

    static void anotherOrderDoesNotForbidIt() {
        CHECK.due("one may", 100, () -> overdueUnder(0, 1).drill(0, 1, 2));
        CHECK.due("heirs may", 100, () -> overdueUnder(1, 2).drill(0, 1, 2));
    }

    static void anOrderThatDoesNotBindForbidsNothing() {
        BoxVault v = overdueUnder(0, 0);
        v.order(0, 1, 1, 5);
        CHECK.due("crossed by the higher court", 100, () -> v.drill(0, 1, 2));
        CHECK.due("the higher binds on", 1, () -> v.binding(0));
        BoxVault w = overdueUnder(0, 0);
        w.lift(0);
        CHECK.due("lifted", 100, () -> w.drill(0, 1, 2));
        BoxVault x = overdueUnder(0, 0);
        x.rent(1, 1, 1);
        x.pass(91);
        CHECK.due("for another box", 90, () -> x.drill(1, 2, 3));
    }

    private static BoxVault overdueUnder(int court, int kind) {
        BoxVault v = Vaults.overdue(100);
        v.order(0, court, kind, 5);
        return v;
    }

    static void argumentsOutOfRangeComeFirst() {
        CHECK.refusesArgument("free box, wrong witness", Vaults::busy, v -> v.drill(7, 16, 2));
        CHECK.refusesArgument("free box, the same witness", Vaults::busy, v -> v.drill(7, 1, 1));
        CHECK.refusesArgument("drilled box, wrong witness", Vaults::busy, v -> v.drill(4, 1, -1));
        CHECK.refusesArgument("drilled box, the same witness", Vaults::busy, v -> v.drill(4, 1, 1));
        CHECK.refusesArgument("too few notices, the same witness", Vaults::busy, v -> v.drill(0, 1, 1));
        CHECK.refusesArgument("dead witness, wrong other", Vaults::busy, v -> v.drill(5, 8, 16));
        CHECK.refusesArgument("dead witness twice", Vaults::busy, v -> v.drill(5, 8, 8));
        CHECK.refusesArgument("the holder twice", Vaults::busy, v -> v.drill(5, 11, 11));
        CHECK.refusesArgument("an order, the same witness", () -> overdueUnder(0, 0), v -> v.drill(0, 1, 1));
    }

    static void aDrilledBoxHasAHolderAndNothingElse() {
        BoxVault v = Vaults.drilled();
        CHECK.due("holder", 0, () -> v.holder(0));
        CHECK.due("notices", 0, () -> v.notices(0));
        CHECK.due("mayAll", 0, () -> v.mayAll(0));
        CHECK.badState("drill again", () -> v.drill(0, 1, 2));
    }
}
