/** Promise 8: proxy. */
public final class Promise08Test {
    private static final Check CHECK = new Check("promise 8");

    public static void main(String[] args) {
        CHECK.runAll(Promise08Test.class);
    }

    static void boxesAre0To7() {
        BoxVault v = Vaults.rented();
        v.rent(7, 0, 10);
        CHECK.due("box 0", 1, () -> v.proxy(0, 1, 0, 0));
        CHECK.due("box 7", 1, () -> v.proxy(7, 1, 0, 0));
        for (int box : Outside.BOXES) {
            CHECK.refusesArgument("box " + box, Vaults::busy, w -> w.proxy(box, 1, 0, 99999));
        }
    }

    static void personsAre0To15() {
        BoxVault v = new BoxVault();
        v.rent(0, 1, 10);
        CHECK.due("person 0", 1, () -> v.proxy(0, 0, 0, 0));
        CHECK.due("person 15", 2, () -> v.proxy(0, 15, 0, 0));
        CHECK.due("0 may enter", 0, () -> v.may(0, 0));
        CHECK.due("15 may enter", 0, () -> v.may(0, 15));
        for (int person : Outside.PERSONS) {
            CHECK.refusesArgument("person " + person, Vaults::busy, w -> w.proxy(0, person, 0, 99999));
        }
    }

    static void theFirstDayIs0To99999() {
        CHECK.due("first is 0", 1, () -> Vaults.rented().proxy(0, 1, 0, 99999));
        CHECK.due("first is 99999", 1, () -> Vaults.rented().proxy(0, 1, 99999, 99999));
        for (int first : Outside.DAYS) {
            CHECK.refusesArgument("first is " + first, Vaults::busy, v -> v.proxy(0, 15, first, 99999));
            CHECK.refusesArgument("both are " + first, Vaults::busy, v -> v.proxy(0, 15, first, first));
        }
    }

    static void theLastDayIsTheFirstTo99999() {
        CHECK.due("both are 0", 1, () -> Vaults.rented().proxy(0, 1, 0, 0));
        CHECK.due("last is first", 1, () -> Vaults.rented().proxy(0, 1, 6, 6));
        CHECK.due("last is 99999", 1, () -> Vaults.rented().proxy(0, 1, 6, 99999));
        CHECK.refusesArgument("a day before first", Vaults::busy, v -> v.proxy(0, 15, 6, 5));
        CHECK.refusesArgument("far before first", Vaults::busy, v -> v.proxy(0, 15, 99999, 0));
        for (int last : Outside.DAYS) {
            CHECK.refusesArgument("last is " + last, Vaults::busy, v -> v.proxy(0, 15, 0, last));
        }
    }

    static void itHoldsFromTheFirstToTheLastDay() {
        BoxVault v = Vaults.rented();
        v.proxy(0, 1, 5, 6);
        v.pass(4);
        CHECK.due("the day before", 3, () -> v.may(0, 1));
        v.pass(1);
        CHECK.due("the first day", 0, () -> v.may(0, 1));
        v.pass(1);
        CHECK.due("the last day", 0, () -> v.may(0, 1));
        v.pass(1);
        CHECK.due("the day after", 3, () -> v.may(0, 1));
    }

    static void itHoldsOnTheVeryLastDay() {
        BoxVault v = Vaults.onDay(99998);
        v.rent(0, 0, 10);
        v.proxy(0, 1, 99999, 99999);
        CHECK.due("on the day 99998", 3, () -> v.may(0, 1));
        v.pass(1);
        CHECK.due("on the day 99999", 0, () -> v.may(0, 1));
    }

    static void theNumberOfProxiesIsAnswered() {
        BoxVault v = Vaults.rented();
        for (int i = 1; i <= 5; i++) {
            int count = i;
            CHECK.due("proxy " + count, count, () -> v.proxy(0, count, 0, 99999));
        }
        CHECK.due("holder and five", 6, () -> v.mayAll(0));
    }

    static void aSixthIsRefused() {
        CHECK.refusesState("of another person", Vaults::fullOfProxies, v -> v.proxy(0, 6, 0, 99999));
        CHECK.refusesState("of the same person", Vaults::fullOfProxies, v -> v.proxy(0, 1, 0, 99999));
        CHECK.refusesState("for days to come", Vaults::fullOfProxies, v -> v.proxy(0, 6, 99999, 99999));
    }

    static void thoseWhoseDaysAreOverAreCounted() {
        BoxVault v = Vaults.rented();
        for (int i = 1; i <= 5; i++) {
            v.proxy(0, i, 0, 10);
        }
        v.pass(11);
        CHECK.due("all are over", 1, () -> v.mayAll(0));
        CHECK.badState("a sixth", () -> v.proxy(0, 6, 11, 20));
    }

    static void onePersonMayHaveSeveral() {
        BoxVault v = Vaults.rented();
        CHECK.due("for now", 1, () -> v.proxy(0, 1, 0, 0));
        CHECK.due("for the same day", 2, () -> v.proxy(0, 1, 0, 0));
        CHECK.due("for later", 3, () -> v.proxy(0, 1, 2, 2));
        CHECK.due("now", 0, () -> v.may(0, 1));
        v.pass(1);
        CHECK.due("between", 3, () -> v.may(0, 1));
        v.pass(1);
        CHECK.due("later", 0, () -> v.may(0, 1));
    }

    static void boxesCountApart() {
        BoxVault v = Vaults.fullOfProxies();
        v.rent(1, 0, 10);
        CHECK.due("another box of the holder", 1, () -> v.proxy(1, 6, 0, 99999));
        CHECK.due("its proxy in the first box", 3, () -> v.may(0, 6));
        CHECK.due("a proxy of the first box in it", 3, () -> v.may(1, 1));
    }

    static void aBoxThatIsNotRentedIsRefused() {
        CHECK.refusesState("a box that never was rented", BoxVault::new, v -> v.proxy(0, 1, 0, 99999));
        CHECK.refusesState("a box that is free again", Vaults::busy, v -> v.proxy(7, 15, 0, 99999));
        CHECK.refusesState("a drilled box", Vaults::busy, v -> v.proxy(4, 15, 0, 99999));
    }

    static void aBoxOfADeadHolderIsRefused() {
        CHECK.refusesState("for an heir", Vaults::busy, v -> v.proxy(2, 6, 0, 99999));
        CHECK.refusesState("for another", Vaults::busy, v -> v.proxy(2, 15, 0, 99999));
    }

    static void theHolderIsRefused() {
        CHECK.refusesState("of this box", Vaults::busy, v -> v.proxy(0, 0, 0, 99999));
        CHECK.due("of another box", 4, () -> Vaults.busy().proxy(0, 4, 0, 99999));
    }

    static void argumentsOutOfRangeComeFirst() {
        CHECK.refusesArgument("free box, wrong person", Vaults::busy, v -> v.proxy(7, 16, 0, 0));
        CHECK.refusesArgument("free box, wrong first", Vaults::busy, v -> v.proxy(7, 1, -1, 0));
        CHECK.refusesArgument("free box, wrong last", Vaults::busy, v -> v.proxy(7, 1, 6, 5));
        CHECK.refusesArgument("drilled box, wrong last", Vaults::busy, v -> v.proxy(4, 1, 0, 100000));
        CHECK.refusesArgument("dead holder, wrong person", Vaults::busy, v -> v.proxy(2, -1, 0, 0));
        CHECK.refusesArgument("dead holder, wrong last", Vaults::busy, v -> v.proxy(2, 1, 1, 0));
        CHECK.refusesArgument("the holder, wrong first", Vaults::busy, v -> v.proxy(0, 0, 100000, 100000));
        CHECK.refusesArgument("a sixth, wrong last", Vaults::fullOfProxies, v -> v.proxy(0, 6, 1, 0));
        CHECK.refusesArgument("a sixth, wrong person", Vaults::fullOfProxies, v -> v.proxy(0, 16, 0, 0));
    }

    static void noticesDoNotForbidIt() {
        BoxVault v = Vaults.overdue(100);
        CHECK.due("with three notices", 1, () -> v.proxy(0, 1, 0, 99999));
        CHECK.due("it may not enter yet", 3, () -> v.may(0, 1));
        v.extend(0, 71);
        CHECK.due("it may when that is paid", 0, () -> v.may(0, 1));
    }

    static void noExceptionIsNamedForADeadProxy() {
        BoxVault v = Vaults.rented();
        v.die(1);
        CHECK.due("it is one", 1, () -> v.proxy(0, 1, 0, 99999));
        CHECK.due("it may not enter", 3, () -> v.may(0, 1));
        CHECK.due("it counts", 2, () -> v.proxy(0, 2, 0, 99999));
    }
}
