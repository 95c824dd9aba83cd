/** Promise 3: rent. */
public final class Promise03Test {
    private static final Check CHECK = new Check("promise 3");

    public static void main(String[] args) {
        CHECK.runAll(Promise03Test.class);
    }

    static void daysCountFromThePresentOne() {
        BoxVault v = Vaults.onDay(20);
        CHECK.due("rent for 5 days on the day 20", 25, () -> v.rent(1, 3, 5));
        CHECK.due("its holder", 3, () -> v.holder(1));
        CHECK.due("the next box", -1, () -> v.holder(2));
    }

    static void boxesAre0To7() {
        CHECK.due("box 0", 1, () -> new BoxVault().rent(0, 0, 1));
        CHECK.due("box 7", 1, () -> new BoxVault().rent(7, 0, 1));
        for (int box : Outside.BOXES) {
            CHECK.refusesArgument("box " + box, Vaults::busy, v -> v.rent(box, 15, 1));
        }
    }

    static void holdersAre0To15() {
        CHECK.due("holder 0", 1, () -> new BoxVault().rent(0, 0, 1));
        CHECK.due("holder 15", 1, () -> new BoxVault().rent(0, 15, 1));
        for (int person : Outside.PERSONS) {
            CHECK.refusesArgument("holder " + person, Vaults::busy, v -> v.rent(7, person, 1));
        }
    }

    static void daysAre1To1000() {
        CHECK.due("1 day", 1, () -> new BoxVault().rent(0, 0, 1));
        CHECK.due("1000 days", 1000, () -> new BoxVault().rent(0, 0, 1000));
        for (int days : Outside.SPANS) {
            CHECK.refusesArgument("days " + days, Vaults::busy, v -> v.rent(7, 15, days));
        }
    }

    static void noExceptionIsNamedForAPaidDayBeyondTheLast() {
        CHECK.due("1 day on the last day", 100000, () -> Vaults.onDay(99999).rent(0, 0, 1));
        CHECK.due("1000 days on the last day", 100999, () -> Vaults.onDay(99999).rent(0, 0, 1000));
    }

    static void aBoxThatIsNotFreeIsRefused() {
        CHECK.refusesState("a box of another", Vaults::busy, v -> v.rent(0, 15, 1));
        CHECK.refusesState("an own box", Vaults::busy, v -> v.rent(0, 0, 1));
        CHECK.refusesState("a dead holder's box", Vaults::busy, v -> v.rent(2, 15, 1));
        CHECK.refusesState("a drilled box", Vaults::busy, v -> v.rent(4, 15, 1));
        CHECK.refusesState("an own drilled box", Vaults::busy, v -> v.rent(4, 9, 1));
    }

    static void theDeadAreRefused() {
        CHECK.refusesState("a free box", Vaults::busy, v -> v.rent(7, 5, 1));
        CHECK.refusesState("an own box", Vaults::busy, v -> v.rent(2, 5, 1));
    }

    static void argumentsOutOfRangeComeFirst() {
        CHECK.refusesArgument("wrong holder, box not free", Vaults::busy, v -> v.rent(0, 16, 1));
        CHECK.refusesArgument("wrong holder, box drilled", Vaults::busy, v -> v.rent(4, -1, 1));
        CHECK.refusesArgument("wrong days, box not free", Vaults::busy, v -> v.rent(0, 15, 0));
        CHECK.refusesArgument("wrong days, box drilled", Vaults::busy, v -> v.rent(4, 15, 1001));
        CHECK.refusesArgument("wrong days, holder dead", Vaults::busy, v -> v.rent(7, 5, 1001));
        CHECK.refusesArgument("wrong box, holder dead", Vaults::busy, v -> v.rent(8, 5, 1));
    }

    static void onePersonMayHoldAllBoxes() {
        BoxVault v = new BoxVault();
        for (int i = 0; i < 8; i++) {
            int box = i;
            CHECK.due("box " + box, box + 1, () -> v.rent(box, 3, box + 1));
        }
    }

    static void aBoxThatWasGivenBackOrFetchedIsFree() {
        BoxVault given = Vaults.rented();
        given.giveBack(0, 0);
        CHECK.due("after giveBack", 2, () -> given.rent(0, 1, 2));
        BoxVault fetched = Vaults.drilled();
        fetched.fetch(0, 0);
        CHECK.due("after fetch", 103, () -> fetched.rent(0, 1, 2));
        CHECK.due("no notices of the time before", 0, () -> fetched.notices(0));
    }

    static void aNewRentCountsEntriesAndLooksAnew() {
        BoxVault v = Vaults.orphaned();
        v.enter(0, 1, 100);
        v.order(0, 0, 1, 4);
        CHECK.due("entries before", 1, () -> v.giveBack(0, 4));
        v.rent(0, 4, 10);
        v.heir(4, 1, true);
        v.die(4);
        CHECK.due("a look since the new rent", 1, () -> v.enter(0, 1, 100));
        v.order(0, 0, 1, 1);
        CHECK.due("entries since the new rent", 1, () -> v.giveBack(0, 1));
    }

    static void aNewRentHasNoProxiesAndOrdersOfTheOneBefore() {
        BoxVault v = Vaults.fullOfProxies();
        v.order(0, 0, 1, 0);
        v.giveBack(0, 0);
        v.rent(0, 0, 10);
        CHECK.due("binding", -1, () -> v.binding(0));
        CHECK.due("the holder alone", 1, () -> v.mayAll(0));
        CHECK.due("the first proxy", 1, () -> v.proxy(0, 6, 0, 99999));
        CHECK.due("the holder and one", 2, () -> v.mayAll(0));
    }
}
