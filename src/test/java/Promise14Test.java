/** Promise 14: may. */
public final class Promise14Test {
    private static final Check CHECK = new Check("promise 14");

    public static void main(String[] args) {
        CHECK.runAll(Promise14Test.class);
    }

    static void boxesAre0To7() {
        BoxVault v = Vaults.rented();
        v.rent(7, 0, 10);
        CHECK.due("box 0", BoxVault.ENTERED, () -> v.may(0, 0));
        CHECK.due("box 7", BoxVault.ENTERED, () -> v.may(7, 0));
        for (int box : Outside.BOXES) {
            CHECK.refusesArgument("box " + box, Vaults::busy, w -> w.may(box, 0));
        }
    }

    static void personsAre0To15() {
        BoxVault v = Vaults.rented();
        v.rent(1, 15, 10);
        CHECK.due("person 0", BoxVault.ENTERED, () -> v.may(0, 0));
        CHECK.due("person 15", BoxVault.ENTERED, () -> v.may(1, 15));
        CHECK.due("person 15 in another's box", BoxVault.NO_RIGHT, () -> v.may(0, 15));
        for (int person : Outside.PERSONS) {
            CHECK.refusesArgument("person " + person, Vaults::busy, w -> w.may(0, person));
            CHECK.refusesArgument("a free box, person " + person, Vaults::busy, w -> w.may(7, person));
            CHECK.refusesArgument("a drilled box, person " + person, Vaults::busy, w -> w.may(4, person));
        }
    }

    static void nobodyMayIfTheBoxIsNotRented() {
        BoxVault v = Vaults.busy();
        BoxVault w = Vaults.drilled();
        w.order(0, 0, 1, 5);
        for (int i = 0; i < 16; i++) {
            int person = i;
            CHECK.due("a new box, " + person, BoxVault.NO_RIGHT, () -> new BoxVault().may(0, person));
            CHECK.due("a box that is free again, " + person, BoxVault.NO_RIGHT, () -> v.may(7, person));
            CHECK.due("a drilled box, " + person, BoxVault.NO_RIGHT, () -> v.may(4, person));
            CHECK.due("a drilled box with an order, " + person, BoxVault.NO_RIGHT, () -> w.may(0, person));
        }
    }

    static void nothingChanges() {
        CHECK.changesNothing("who may enter", "0", Vaults::busy, v -> v.may(0, 0));
        CHECK.changesNothing("who may look", "1", Vaults::busy, v -> v.may(2, 6));
        CHECK.changesNothing("who has no right", "3", Vaults::busy, v -> v.may(0, 15));
        CHECK.changesNothing("a free box", "3", Vaults::busy, v -> v.may(7, 3));
        CHECK.changesNothing("a drilled box", "3", Vaults::busy, v -> v.may(4, 9));
    }

    static void itIsWhatAnEntryComesTo() {
        for (int i = 0; i < 8; i++) {
            int box = i;
            for (int j = 0; j < 16; j++) {
                int person = j;
                if (box != 4 && box != 7) {
                    int want = Vaults.busy().enter(box, person, 100);
                    CHECK.due("may(" + box + ", " + person + ")", want, () -> Vaults.busy().may(box, person));
                }
            }
        }
    }

    static void heirsMayJustLook() {
        BoxVault v = Vaults.orphaned();
        CHECK.due("an heir", BoxVault.LOOKED, () -> v.may(0, 1));
        CHECK.due("a dead heir", BoxVault.NO_RIGHT, () -> v.may(0, 3));
        v.enter(0, 2, 60);
        CHECK.due("after the look", BoxVault.NO_RIGHT, () -> v.may(0, 1));
        CHECK.due("in another box", BoxVault.LOOKED, () -> v.may(1, 1));
        v.order(0, 0, 2, 0);
        CHECK.due("by an order", BoxVault.ENTERED, () -> v.may(0, 1));
    }

    static void withANoticeNobodyMay() {
        CHECK.due("29 days overdue", BoxVault.ENTERED, () -> Vaults.overdue(29).may(0, 0));
        CHECK.due("30 days overdue", BoxVault.NO_RIGHT, () -> Vaults.overdue(30).may(0, 0));
    }
}
