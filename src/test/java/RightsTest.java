/** Promises 8 to 12: proxies, heirs, deaths, orders. */
public final class RightsTest {
    private static final Check CHECK = new Check("RightsTest");
    private static final int[] NO_BOX = {-1, 8, Integer.MIN_VALUE, Integer.MAX_VALUE};
    private static final int[] NO_PERSON = {-1, 16, Integer.MIN_VALUE, Integer.MAX_VALUE};

    public static void main(String[] args) {
        proxy();
        proxyStates();
        heir();
        die();
        dieEndsProxies();
        orderArguments();
        orderStates();
        orderNumbers();
        lift();
        liftOfEndedOrders();
        CHECK.end();
    }

    private static BoxVault rented() {
        BoxVault v = new BoxVault();
        v.rent(0, 0, 1000);
        return v;
    }

    private static void proxy() {
        BoxVault v = rented();
        for (int box : NO_BOX) {
            CHECK.badArgument("proxy for box " + box, () -> v.proxy(box, 1, 0, 0));
        }
        for (int person : NO_PERSON) {
            CHECK.badArgument("proxy of " + person, () -> v.proxy(0, person, 0, 0));
        }
        CHECK.badArgument("first below", () -> v.proxy(0, 1, -1, 0));
        CHECK.badArgument("first above", () -> v.proxy(0, 1, 100000, 100000));
        CHECK.badArgument("last above", () -> v.proxy(0, 1, 0, 100000));
        CHECK.badArgument("last before first", () -> v.proxy(0, 1, 6, 5));
        CHECK.badArgument("last far below", () -> v.proxy(0, 1, 0, Integer.MIN_VALUE));
        CHECK.badArgument("out of range comes first", () -> v.proxy(1, 1, 6, 5));
        CHECK.due("the first proxy", 1, () -> v.proxy(0, 1, 5, 5));
        CHECK.due("not yet", 3, () -> v.may(0, 1));
        v.pass(5);
        CHECK.due("on its day", 0, () -> v.may(0, 1));
        v.pass(1);
        CHECK.due("no more", 3, () -> v.may(0, 1));
        CHECK.due("the same person again", 2, () -> v.proxy(0, 1, 0, 7));
        CHECK.due("days in the past", 3, () -> v.proxy(0, 1, 0, 0));
        CHECK.due("to the last day", 4, () -> v.proxy(0, 2, 99999, 99999));
        CHECK.due("one of several suffices", 0, () -> v.may(0, 1));
        CHECK.due("the fifth", 5, () -> v.proxy(0, 3, 0, 99999));
        CHECK.badState("a sixth, those over counted", () -> v.proxy(0, 3, 0, 99999));
        CHECK.due("holder and two", 3, () -> v.mayAll(0));
        v.rent(1, 0, 10);
        CHECK.due("boxes count apart", 1, () -> v.proxy(1, 15, 0, 99999));
        CHECK.due("another box's proxy", 3, () -> v.may(0, 15));
    }

    private static void proxyStates() {
        BoxVault v = new BoxVault();
        CHECK.badState("proxy for a free box", () -> v.proxy(0, 1, 0, 5));
        v.rent(0, 0, 1);
        CHECK.badState("the holder as proxy", () -> v.proxy(0, 0, 0, 5));
        v.die(4);
        CHECK.due("a dead proxy is one", 1, () -> v.proxy(0, 4, 0, 99999));
        CHECK.due("but may not enter", 3, () -> v.may(0, 4));
        v.pass(200);
        CHECK.due("proxy with notices", 2, () -> v.proxy(0, 1, 0, 99999));
        v.drill(0, 1, 2);
        CHECK.badState("proxy for a drilled box", () -> v.proxy(0, 1, 0, 5));
        v.rent(1, 3, 5);
        v.die(3);
        CHECK.badState("proxy of a dead holder", () -> v.proxy(1, 1, 0, 5));
    }

    private static void heir() {
        BoxVault v = rented();
        for (int person : NO_PERSON) {
            CHECK.badArgument("heir of " + person, () -> Check.bit(v.heir(person, 1, true)));
            CHECK.badArgument("heir " + person, () -> Check.bit(v.heir(1, person, true)));
            CHECK.badArgument("both " + person, () -> Check.bit(v.heir(person, person, true)));
        }
        CHECK.badArgument("their own heir", () -> Check.bit(v.heir(15, 15, false)));
        CHECK.due("was none", 0, () -> Check.bit(v.heir(0, 15, true)));
        CHECK.due("was one", 1, () -> Check.bit(v.heir(0, 15, true)));
        CHECK.due("not the other way", 0, () -> Check.bit(v.heir(15, 0, false)));
        CHECK.due("was one before it ended", 1, () -> Check.bit(v.heir(0, 15, false)));
        CHECK.due("was none after it ended", 0, () -> Check.bit(v.heir(0, 15, false)));
        CHECK.due("to 14", 0, () -> Check.bit(v.heir(0, 14, true)));
        CHECK.due("heirs of the living may not", 3, () -> v.may(0, 14));
        v.die(0);
        CHECK.due("heirs of the dead may look", 1, () -> v.may(0, 14));
        CHECK.due("an heir after the death", 0, () -> Check.bit(v.heir(0, 15, true)));
        CHECK.due("may look too", 1, () -> v.may(0, 15));
        CHECK.due("no heir after the death", 1, () -> Check.bit(v.heir(0, 14, false)));
        CHECK.due("may look no more", 3, () -> v.may(0, 14));
        v.die(13);
        CHECK.due("a dead heir", 0, () -> Check.bit(v.heir(0, 13, true)));
        CHECK.due("may not look", 3, () -> v.may(0, 13));
    }

    private static void die() {
        BoxVault v = new BoxVault();
        for (int person : NO_PERSON) {
            CHECK.badArgument("die " + person, () -> v.die(person));
        }
        v.rent(0, 0, 1);
        v.rent(1, 0, 1000);
        v.rent(2, 0, 1000);
        v.rent(3, 1, 1000);
        v.rent(7, 0, 1000);
        v.giveBack(2, 0);
        v.pass(500);
        v.drill(0, 1, 2);
        CHECK.due("rented ones alone count", 2, () -> v.die(0));
        CHECK.badState("die twice", () -> v.die(0));
        CHECK.due("die without a box", 0, () -> v.die(15));
        CHECK.due("the holder stays", 0, () -> v.holder(1));
        CHECK.due("a drilled one's holder stays", 0, () -> v.holder(0));
        CHECK.due("the dead may not enter", 3, () -> v.enter(1, 0, 100));
        CHECK.due("which is a refusal", 1, () -> v.refusals(0));
    }

    private static void dieEndsProxies() {
        BoxVault v = rented();
        v.rent(1, 1, 1000);
        v.proxy(0, 2, 0, 99999);
        v.proxy(1, 2, 0, 99999);
        v.proxy(1, 0, 0, 99999);
        v.die(0);
        CHECK.due("a proxy of the dead", 3, () -> v.may(0, 2));
        CHECK.due("a proxy of the living", 0, () -> v.may(1, 2));
        CHECK.due("a dead proxy", 3, () -> v.may(1, 0));
        CHECK.due("a dead proxy counts on", 3, () -> v.proxy(1, 3, 0, 0));
    }

    private static void orderArguments() {
        BoxVault v = rented();
        for (int box : NO_BOX) {
            CHECK.badArgument("order for box " + box, () -> v.order(box, 0, 0, 0));
        }
        for (int person : NO_PERSON) {
            CHECK.badArgument("order for one " + person, () -> v.order(0, 0, 1, person));
            CHECK.badArgument("out of range comes first", () -> v.order(1, 0, 1, person));
        }
        for (int bad : new int[] {-1, 3, Integer.MIN_VALUE, Integer.MAX_VALUE}) {
            CHECK.badArgument("order of kind " + bad, () -> v.order(0, 0, bad, 0));
            CHECK.badArgument("order of court " + bad, () -> v.order(0, bad, 0, 0));
        }
        CHECK.badArgument("order of court 2", () -> v.order(0, 2, 0, 0));
        CHECK.due("nothing was given", -1, () -> v.binding(0));
        CHECK.due("a person does not matter for kind 0", 0, () -> v.order(0, 0, 0, -1));
        CHECK.due("a person does not matter for kind 2", 1, () -> v.order(0, 1, 2, 16));
        CHECK.due("one of 15", 2, () -> v.order(0, 1, 1, 15));
        CHECK.due("15 may", 0, () -> v.may(0, 15));
        CHECK.due("15 alone", 1, () -> v.mayAll(0));
    }

    private static void orderStates() {
        BoxVault v = new BoxVault();
        CHECK.badState("order for a free box", () -> v.order(0, 0, 0, 0));
        v.rent(0, 0, 1);
        v.pass(200);
        v.drill(0, 1, 2);
        CHECK.due("order for a drilled box", 0, () -> v.order(0, 0, 0, 0));
        CHECK.due("binds it", 0, () -> v.binding(0));
    }

    private static void orderNumbers() {
        BoxVault v = rented();
        v.rent(1, 1, 1000);
        for (int i = 0; i < 28; i++) {
            int number = i;
            CHECK.due("numbers go over all boxes", number, () -> v.order(number % 2, 0, 0, 0));
        }
        v.lift(0);
        v.lift(2);
        v.rent(2, 2, 10);
        v.order(2, 0, 1, 2);
        v.giveBack(2, 2);
        CHECK.due("the thirtieth", 29, () -> v.order(1, 1, 2, 0));
        CHECK.badState("ended ones count", () -> v.order(0, 0, 0, 0));
        CHECK.badState("for no box", () -> v.order(1, 1, 0, 0));
        CHECK.badArgument("out of range comes first", () -> v.order(0, 0, 3, 0));
        CHECK.due("the last binds", 29, () -> v.binding(1));
        CHECK.due("the last is lifted", 1, () -> Check.bit(v.lift(29)));
        CHECK.badIndex("no order 30", () -> Check.bit(v.lift(30)));
    }

    private static void lift() {
        BoxVault v = rented();
        v.order(0, 0, 0, 0);
        v.order(0, 1, 0, 0);
        v.order(0, 0, 0, 0);
        v.order(0, 1, 0, 0);
        for (int bad : new int[] {-1, 4, 30, Integer.MIN_VALUE, Integer.MAX_VALUE}) {
            CHECK.badIndex("lift " + bad, () -> Check.bit(v.lift(bad)));
        }
        CHECK.due("an earlier one of the higher court", 0, () -> Check.bit(v.lift(1)));
        CHECK.due("a later one of the lower court", 0, () -> Check.bit(v.lift(2)));
        CHECK.due("still the last", 3, () -> v.binding(0));
        CHECK.due("the one that bound", 1, () -> Check.bit(v.lift(3)));
        CHECK.badState("lifted twice", () -> Check.bit(v.lift(3)));
        CHECK.due("the lower court's is left", 0, () -> v.binding(0));
        CHECK.due("it bound at last", 1, () -> Check.bit(v.lift(0)));
        CHECK.due("nothing binds", -1, () -> v.binding(0));
        CHECK.due("the holder may again", 0, () -> v.may(0, 0));
    }

    private static void liftOfEndedOrders() {
        BoxVault v = rented();
        v.rent(1, 1, 1000);
        v.order(0, 0, 1, 0);
        v.order(1, 0, 1, 1);
        v.giveBack(0, 0);
        CHECK.badState("ended with the rent", () -> Check.bit(v.lift(0)));
        v.rent(0, 0, 1000);
        CHECK.badState("and does not come back", () -> Check.bit(v.lift(0)));
        CHECK.due("of another box", 1, () -> Check.bit(v.lift(1)));
    }
}
