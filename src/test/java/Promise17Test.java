/** Promise 17: notices. */
public final class Promise17Test {
    private static final Check CHECK = new Check("promise 17");

    public static void main(String[] args) {
        CHECK.runAll(Promise17Test.class);
    }

    static void boxesAre0To7() {
        BoxVault v = new BoxVault();
        v.rent(0, 0, 1);
        v.rent(7, 0, 40);
        v.pass(71);
        CHECK.due("box 0", 2, () -> v.notices(0));
        CHECK.due("box 1", 0, () -> v.notices(1));
        CHECK.due("box 7", 1, () -> v.notices(7));
        for (int box : Outside.BOXES) {
            CHECK.refusesArgument("box " + box, Vaults::busy, w -> w.notices(box));
        }
    }

    static void thereIsOneForEachFull30Days() {
        int[] overdueAndNotices = {1, 0, 29, 0, 30, 1, 31, 1, 59, 1, 60, 2, 61, 2, 89, 2, 90, 3, 91, 3};
        for (int i = 0; i < overdueAndNotices.length; i += 2) {
            int days = overdueAndNotices[i];
            int want = overdueAndNotices[i + 1];
            CHECK.due(days + " days overdue", want, () -> Vaults.overdue(days).notices(0));
        }
    }

    static void thereAre3AtMost() {
        CHECK.due("119 days overdue", 3, () -> Vaults.overdue(119).notices(0));
        CHECK.due("120 days overdue", 3, () -> Vaults.overdue(120).notices(0));
        CHECK.due("999 days overdue", 3, () -> Vaults.overdue(999).notices(0));
        BoxVault v = Vaults.rented();
        for (int i = 0; i < 99; i++) {
            v.pass(1000);
        }
        v.pass(999);
        CHECK.due("98999 days overdue", 3, () -> v.notices(0));
    }

    static void aPaidBoxHasNone() {
        BoxVault v = new BoxVault();
        v.rent(0, 0, 100);
        CHECK.due("100 days ahead", 0, () -> v.notices(0));
        v.pass(99);
        CHECK.due("a day ahead", 0, () -> v.notices(0));
        v.pass(1);
        CHECK.due("on the paid day", 0, () -> v.notices(0));
        v.pass(1);
        CHECK.due("a day after it", 0, () -> v.notices(0));
        BoxVault w = Vaults.onDay(99999);
        w.rent(0, 0, 1000);
        CHECK.due("beyond the last day", 0, () -> w.notices(0));
    }

    static void aBoxThatIsNotRentedHasNone() {
        CHECK.due("a new one", 0, () -> Vaults.onDay(500).notices(0));
        BoxVault drilled = Vaults.drilled();
        CHECK.due("drilled", 0, () -> drilled.notices(0));
        drilled.pass(1000);
        CHECK.due("drilled long ago", 0, () -> drilled.notices(0));
        drilled.fetch(0, 0);
        CHECK.due("fetched", 0, () -> drilled.notices(0));
        BoxVault given = Vaults.overdue(100);
        given.order(0, 0, 1, 0);
        CHECK.due("overdue", 3, () -> given.notices(0));
        given.giveBack(0, 0);
        CHECK.due("given back", 0, () -> given.notices(0));
    }

    static void aDeadHoldersBoxHasThemToo() {
        BoxVault v = Vaults.overdue(59);
        v.die(0);
        CHECK.due("59 days overdue", 1, () -> v.notices(0));
        v.pass(1);
        CHECK.due("60 days overdue", 2, () -> v.notices(0));
    }

    static void nothingChanges() {
        CHECK.changesNothing("an overdue box", "3", Vaults::busy, v -> v.notices(5));
        CHECK.changesNothing("a drilled box", "0", Vaults::busy, v -> v.notices(4));
    }
}
