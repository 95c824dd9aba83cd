/** Promise 18: refusals. */
public final class Promise18Test {
    private static final Check CHECK = new Check("promise 18");

    public static void main(String[] args) {
        CHECK.runAll(Promise18Test.class);
    }

    static void personsAre0To15() {
        BoxVault v = new BoxVault();
        v.rent(0, 1, 10);
        v.enter(0, 0, 100);
        v.enter(0, 15, 100);
        v.enter(0, 15, 100);
        CHECK.due("person 0", 1, () -> v.refusals(0));
        CHECK.due("person 1", 0, () -> v.refusals(1));
        CHECK.due("person 14", 0, () -> v.refusals(14));
        CHECK.due("person 15", 2, () -> v.refusals(15));
        for (int person : Outside.PERSONS) {
            CHECK.refusesArgument("person " + person, Vaults::busy, w -> w.refusals(person));
        }
    }

    static void thoseWithoutARightAndTheUnlikeAreCounted() {
        BoxVault v = Vaults.rented();
        CHECK.due("none at first", 0, () -> v.refusals(0));
        v.enter(0, 0, 59);
        CHECK.due("an unlike one", 1, () -> v.refusals(0));
        v.order(0, 0, 0, 0);
        v.enter(0, 0, 100);
        CHECK.due("one without a right", 2, () -> v.refusals(0));
        v.enter(0, 0, 0);
        CHECK.due("one without both", 3, () -> v.refusals(0));
    }

    static void entriesAndLooksAreNotCounted() {
        BoxVault v = Vaults.orphaned();
        v.enter(0, 1, 60);
        CHECK.due("a look", 0, () -> v.refusals(1));
        v.order(0, 0, 2, 0);
        v.enter(0, 1, 60);
        CHECK.due("an entry", 0, () -> v.refusals(1));
    }

    static void theyAreCountedOverAllBoxes() {
        BoxVault v = new BoxVault();
        for (int box = 0; box < 8; box++) {
            v.rent(box, 1, 10);
            v.enter(box, 2, 100);
        }
        CHECK.due("eight boxes", 8, () -> v.refusals(2));
    }

    static void callsThatThrowAreNotCounted() {
        BoxVault v = Vaults.busy();
        CHECK.badState("enter a free box", () -> v.enter(7, 15, 100));
        CHECK.badState("enter a drilled box", () -> v.enter(4, 15, 100));
        CHECK.badArgument("a likeness of 101", () -> v.enter(0, 15, 101));
        CHECK.badState("giveBack", () -> v.giveBack(0, 15));
        CHECK.badState("fetch", () -> v.fetch(4, 15));
        CHECK.due("none", 0, () -> v.refusals(15));
    }

    static void askingIsNoEntry() {
        BoxVault v = Vaults.rented();
        v.may(0, 1);
        v.mayAll(0);
        CHECK.due("none", 0, () -> v.refusals(1));
    }

    static void theyStayWhenABoxIsFreeAndAPersonDead() {
        BoxVault v = Vaults.rented();
        v.enter(0, 1, 100);
        v.giveBack(0, 0);
        CHECK.due("a free box", 1, () -> v.refusals(1));
        v.rent(0, 0, 10);
        CHECK.due("rented again", 1, () -> v.refusals(1));
        v.die(1);
        CHECK.due("dead", 1, () -> v.refusals(1));
        v.enter(0, 1, 100);
        CHECK.due("refused when dead", 2, () -> v.refusals(1));
    }

    static void thereIsNoMost() {
        BoxVault v = Vaults.rented();
        for (int i = 0; i < 400; i++) {
            v.enter(0, 1, 100);
        }
        CHECK.due("many", 400, () -> v.refusals(1));
    }

    static void nothingChanges() {
        CHECK.changesNothing("one refusal", "1", Vaults::busy, v -> v.refusals(2));
        CHECK.changesNothing("no refusal", "0", Vaults::busy, v -> v.refusals(15));
    }
}
