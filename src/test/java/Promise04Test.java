/** Promise 4: extend. */
public final class Promise04Test {
    private static final Check CHECK = new Check("promise 4");

    public static void main(String[] args) {
        CHECK.runAll(Promise04Test.class);
    }

    static void daysCountFromThePaidOne() {
        BoxVault v = Vaults.rented();
        v.pass(500);
        CHECK.due("when paid", 1400, () -> v.extend(0, 400));
        v.pass(1000);
        CHECK.due("when overdue", 1405, () -> v.extend(0, 5));
    }

    static void boxesAre0To7() {
        BoxVault v = Vaults.rented();
        v.rent(7, 1, 10);
        CHECK.due("box 0", 1001, () -> v.extend(0, 1));
        CHECK.due("box 7", 11, () -> v.extend(7, 1));
        for (int box : Outside.BOXES) {
            CHECK.refusesArgument("box " + box, Vaults::busy, w -> w.extend(box, 1));
        }
    }

    static void daysAre1To1000() {
        CHECK.due("1 day", 1001, () -> Vaults.rented().extend(0, 1));
        CHECK.due("1000 days", 2000, () -> Vaults.rented().extend(0, 1000));
        for (int days : Outside.SPANS) {
            CHECK.refusesArgument("days " + days, Vaults::busy, v -> v.extend(0, days));
        }
    }

    static void aBoxThatIsNotRentedIsRefused() {
        CHECK.refusesState("a box that never was rented", BoxVault::new, v -> v.extend(0, 1));
        CHECK.refusesState("a box that is free again", Vaults::busy, v -> v.extend(7, 1));
        CHECK.refusesState("a drilled box", Vaults::busy, v -> v.extend(4, 1000));
    }

    static void daysOutOfRangeComeFirst() {
        for (int days : Outside.SPANS) {
            CHECK.refusesArgument("a free box, days " + days, Vaults::busy, v -> v.extend(7, days));
            CHECK.refusesArgument("a drilled box, days " + days, Vaults::busy, v -> v.extend(4, days));
        }
    }

    static void noExceptionIsNamedForAPaidDayBeyondTheLast() {
        BoxVault v = Vaults.onDay(99999);
        v.rent(0, 0, 1000);
        CHECK.due("beyond the last day", 101999, () -> v.extend(0, 1000));
        BoxVault w = Vaults.rented();
        for (int i = 0; i < 98; i++) {
            w.extend(0, 1000);
        }
        CHECK.due("to the last day", 99999, () -> w.extend(0, 999));
        CHECK.due("one day more", 100000, () -> w.extend(0, 1));
    }

    static void aDeadHoldersBoxMayBePaid() {
        CHECK.due("extend", 1001, () -> Vaults.orphaned().extend(0, 1));
    }

    static void payingTakesNoticesBack() {
        BoxVault v = Vaults.overdue(90);
        CHECK.due("before", 3, () -> v.notices(0));
        v.extend(0, 1);
        CHECK.due("89 days overdue", 2, () -> v.notices(0));
        v.extend(0, 59);
        CHECK.due("30 days overdue", 1, () -> v.notices(0));
        v.extend(0, 1);
        CHECK.due("29 days overdue", 0, () -> v.notices(0));
        v.extend(0, 1000);
        CHECK.due("paid ahead", 0, () -> v.notices(0));
    }
}
