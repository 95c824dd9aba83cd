/** Promise 5: giveBack. */
public final class Promise05Test {
    private static final Check CHECK = new Check("promise 5");

    public static void main(String[] args) {
        CHECK.runAll(Promise05Test.class);
    }

    static void entriesAreCountedRefusedOnesAreNot() {
        CHECK.due("none", 0, () -> Vaults.rented().giveBack(0, 0));
        BoxVault v = Vaults.rented();
        v.enter(0, 0, 60);
        v.enter(0, 0, 59);
        v.enter(0, 1, 100);
        v.proxy(0, 1, 0, 0);
        v.enter(0, 1, 100);
        CHECK.due("two, and two refused", 2, () -> v.giveBack(0, 0));
        CHECK.due("refusals stay", 1, () -> v.refusals(1));
    }

    static void looksAreCounted() {
        BoxVault v = Vaults.orphaned();
        v.enter(0, 1, 100);
        v.enter(0, 2, 100);
        v.order(0, 0, 2, 0);
        v.enter(0, 2, 100);
        CHECK.due("a look and an entry", 2, () -> v.giveBack(0, 1));
    }

    static void entriesOfAnotherBoxAreNotCounted() {
        BoxVault v = Vaults.rented();
        v.rent(1, 0, 10);
        v.enter(1, 0, 100);
        CHECK.due("box 0", 0, () -> v.giveBack(0, 0));
        CHECK.due("box 1", 1, () -> v.giveBack(1, 0));
    }

    static void boxesAre0To7() {
        BoxVault v = Vaults.rented();
        v.rent(7, 1, 10);
        CHECK.due("box 0", 0, () -> v.giveBack(0, 0));
        CHECK.due("box 7", 0, () -> v.giveBack(7, 1));
        for (int box : Outside.BOXES) {
            CHECK.refusesArgument("box " + box, Vaults::busy, w -> w.giveBack(box, 0));
        }
    }

    static void personsAre0To15() {
        BoxVault v = Vaults.rented();
        v.rent(1, 15, 10);
        CHECK.due("person 0", 0, () -> v.giveBack(0, 0));
        CHECK.due("person 15", 0, () -> v.giveBack(1, 15));
        for (int person : Outside.PERSONS) {
            CHECK.refusesArgument("person " + person, Vaults::busy, w -> w.giveBack(0, person));
        }
    }

    static void theBoxIsFreeThen() {
        BoxVault v = Vaults.fullOfProxies();
        v.order(0, 1, 1, 0);
        v.giveBack(0, 0);
        CHECK.due("holder", -1, () -> v.holder(0));
        CHECK.due("binding", -1, () -> v.binding(0));
        CHECK.due("mayAll", 0, () -> v.mayAll(0));
        CHECK.due("notices", 0, () -> v.notices(0));
        CHECK.badState("its order holds no more", () -> Check.bit(v.lift(0)));
        CHECK.badState("giveBack again", () -> v.giveBack(0, 0));
        CHECK.due("rent", 1, () -> v.rent(0, 1, 1));
    }

    static void aBoxThatIsNotRentedIsRefused() {
        CHECK.refusesState("a free box", Vaults::busy, v -> v.giveBack(7, 3));
        CHECK.refusesState("a drilled box", Vaults::busy, v -> v.giveBack(4, 9));
        CHECK.refusesState("a drilled box by the one who may fetch",
                () -> drilledForOne(5), v -> v.giveBack(0, 5));
    }

    private static BoxVault drilledForOne(int person) {
        BoxVault v = Vaults.drilled();
        v.order(0, 1, 1, person);
        return v;
    }

    static void personsOutOfRangeComeFirst() {
        for (int person : Outside.PERSONS) {
            CHECK.refusesArgument("a free box, person " + person, Vaults::busy, v -> v.giveBack(7, person));
            CHECK.refusesArgument("a drilled box, person " + person, Vaults::busy, v -> v.giveBack(4, person));
        }
    }

    static void whoMayNotEnterMayNotGiveBack() {
        CHECK.refusesState("another person", Vaults::busy, v -> v.giveBack(0, 15));
        CHECK.refusesState("an heir of the living", Promise05Test::withAnHeir, v -> v.giveBack(0, 1));
        CHECK.refusesState("the dead holder", Vaults::busy, v -> v.giveBack(2, 5));
        CHECK.refusesState("a dead heir", Vaults::busy, v -> v.giveBack(2, 8));
        CHECK.refusesState("an heir after the look", Vaults::busy, v -> v.giveBack(3, 7));
    }

    private static BoxVault withAnHeir() {
        BoxVault v = Vaults.rented();
        v.heir(0, 1, true);
        return v;
    }

    static void whoMayJustLookMayNotGiveBack() {
        CHECK.refusesState("an heir before the look", Vaults::busy, v -> v.giveBack(2, 6));
    }

    static void aProxyMayFromTheFirstToTheLastDay() {
        int[] dayAndMay = {9, 0, 10, 1, 12, 1, 13, 0};
        for (int i = 0; i < dayAndMay.length; i += 2) {
            int day = dayAndMay[i];
            if (dayAndMay[i + 1] == 1) {
                CHECK.due("on the day " + day, 0, () -> withProxyOnDay(day).giveBack(0, 1));
            } else {
                CHECK.refusesState("on the day " + day, () -> withProxyOnDay(day), v -> v.giveBack(0, 1));
            }
        }
    }

    private static BoxVault withProxyOnDay(int day) {
        BoxVault v = Vaults.rented();
        v.proxy(0, 1, 10, 12);
        v.pass(day);
        return v;
    }

    static void withANoticeNobodyMay() {
        CHECK.due("29 days overdue", 0, () -> Vaults.overdue(29).giveBack(0, 0));
        CHECK.refusesState("30 days overdue", () -> Vaults.overdue(30), v -> v.giveBack(0, 0));
        CHECK.refusesState("100 days overdue", () -> Vaults.overdue(100), v -> v.giveBack(0, 0));
    }

    static void anOrderComesBeforeNoticesAndHolders() {
        BoxVault v = Vaults.overdue(30);
        v.order(0, 0, 1, 5);
        CHECK.badState("the holder", () -> v.giveBack(0, 0));
        CHECK.due("the one", 0, () -> v.giveBack(0, 5));
        CHECK.refusesState("nobody may", () -> Vaults.ordered(0, 0), w -> w.giveBack(0, 0));
        CHECK.refusesState("heirs may, the holder lives", () -> Vaults.ordered(2, 0), w -> w.giveBack(0, 0));
        CHECK.refusesState("the one is dead", Promise05Test::orderedForTheDead, w -> w.giveBack(0, 5));
    }

    private static BoxVault orderedForTheDead() {
        BoxVault v = Vaults.ordered(1, 5);
        v.die(5);
        return v;
    }
}
