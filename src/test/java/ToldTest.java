/**
 * A call that changes a vault is seen by what the vault tells: else no test could
 * tell a refused call from one that did half its work.
 */
public final class ToldTest {
    private static final Check CHECK = new Check("ToldTest");

    public static void main(String[] args) {
        CHECK.runAll(ToldTest.class);
    }

    private static void seen(String what, Check.CallOn call) {
        boolean differs = false;
        for (int way = 0; way < Told.WAYS; way++) {
            BoxVault called = Vaults.busy();
            call.answer(called);
            differs |= !Told.by(way, Vaults.busy()).equals(Told.by(way, called));
        }
        CHECK.same(what + " is seen", "true", Boolean.toString(differs));
    }

    static void rentIsSeen() {
        seen("pass", v -> v.pass(1));
        seen("rent", v -> v.rent(7, 14, 1));
        seen("extend of a rented box", v -> v.extend(0, 1));
        seen("extend of a dead holder's box", v -> v.extend(2, 1));
        seen("giveBack", v -> v.giveBack(0, 0));
        seen("drill", v -> v.drill(5, 1, 2));
        seen("fetch", v -> v.fetch(4, 9));
    }

    static void rightsAreSeen() {
        seen("proxy for now", v -> v.proxy(0, 14, 0, 99999));
        seen("proxy for later", v -> v.proxy(0, 14, 120, 130));
        seen("proxy for days that are over", v -> v.proxy(0, 14, 0, 0));
        seen("an heir more", v -> Check.bit(v.heir(14, 15, true)));
        seen("an heir less", v -> Check.bit(v.heir(9, 10, false)));
        seen("die", v -> v.die(14));
        seen("order for a rented box", v -> v.order(0, 0, 1, 0));
        seen("order for a drilled box", v -> v.order(4, 0, 1, 9));
        seen("order that does not bind", v -> v.order(6, 0, 0, 0));
        seen("lift of the one that binds", v -> Check.bit(v.lift(2)));
        seen("lift of another", v -> Check.bit(v.lift(1)));
    }

    static void entriesAreSeen() {
        seen("an entry", v -> v.enter(0, 0, 100));
        seen("an entry that is unlike", v -> v.enter(0, 0, 0));
        seen("an entry without a right", v -> v.enter(0, 14, 100));
        seen("a look for a will", v -> v.enter(2, 6, 100));
    }
}
