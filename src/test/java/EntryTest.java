/** Promises 13 to 19: entries, and what is told of boxes and persons. */
public final class EntryTest {
    private static final Check CHECK = new Check("EntryTest");
    private static final int[] NO_BOX = {-1, 8, Integer.MIN_VALUE, Integer.MAX_VALUE};
    private static final int[] NO_PERSON = {-1, 16, Integer.MIN_VALUE, Integer.MAX_VALUE};

    public static void main(String[] args) {
        constants();
        arguments();
        enter();
        enterWithNotices();
        enterForAWill();
        enterByOrder();
        may();
        mayAll();
        holder();
        notices();
        refusals();
        binding();
        refusedCallsChangeNothing();
        CHECK.end();
    }

    private static void constants() {
        CHECK.due("ENTERED", 0, () -> BoxVault.ENTERED);
        CHECK.due("LOOKED", 1, () -> BoxVault.LOOKED);
        CHECK.due("UNLIKE", 2, () -> BoxVault.UNLIKE);
        CHECK.due("NO_RIGHT", 3, () -> BoxVault.NO_RIGHT);
    }

    private static void arguments() {
        BoxVault v = new BoxVault();
        v.rent(0, 0, 10);
        for (int box : NO_BOX) {
            CHECK.badArgument("enter box " + box, () -> v.enter(box, 0, 60));
            CHECK.badArgument("may, box " + box, () -> v.may(box, 0));
            CHECK.badArgument("mayAll, box " + box, () -> v.mayAll(box));
            CHECK.badArgument("holder, box " + box, () -> v.holder(box));
            CHECK.badArgument("notices, box " + box, () -> v.notices(box));
            CHECK.badArgument("binding, box " + box, () -> v.binding(box));
        }
        for (int person : NO_PERSON) {
            CHECK.badArgument("enter by " + person, () -> v.enter(0, person, 60));
            CHECK.badArgument("out of range comes first", () -> v.enter(1, person, 60));
            CHECK.badArgument("may, person " + person, () -> v.may(0, person));
            CHECK.badArgument("may, free box, person " + person, () -> v.may(1, person));
            CHECK.badArgument("refusals, person " + person, () -> v.refusals(person));
        }
        for (int likeness : new int[] {-1, 101, Integer.MIN_VALUE, Integer.MAX_VALUE}) {
            CHECK.badArgument("likeness " + likeness, () -> v.enter(0, 0, likeness));
            CHECK.badArgument("likeness comes first " + likeness, () -> v.enter(1, 0, likeness));
        }
        CHECK.due("none of these was kept", 0, () -> v.refusals(0));
    }

    private static void enter() {
        BoxVault v = new BoxVault();
        CHECK.badState("enter a free box", () -> v.enter(0, 0, 100));
        v.rent(0, 0, 10);
        CHECK.due("likeness 0", 2, () -> v.enter(0, 0, 0));
        CHECK.due("likeness 59", 2, () -> v.enter(0, 0, 59));
        CHECK.due("likeness 60", 0, () -> v.enter(0, 0, 60));
        CHECK.due("likeness 100", 0, () -> v.enter(0, 0, 100));
        CHECK.due("no right", 3, () -> v.enter(0, 1, 100));
        CHECK.due("no right comes before likeness", 3, () -> v.enter(0, 1, 0));
        v.proxy(0, 1, 1, 2);
        CHECK.due("a proxy before", 3, () -> v.enter(0, 1, 100));
        v.pass(1);
        CHECK.due("a proxy on the first day", 0, () -> v.enter(0, 1, 60));
        CHECK.due("a proxy, unlike", 2, () -> v.enter(0, 1, 59));
        v.pass(1);
        CHECK.due("a proxy on the last day", 0, () -> v.enter(0, 1, 100));
        v.pass(1);
        CHECK.due("a proxy afterwards", 3, () -> v.enter(0, 1, 100));
        CHECK.due("refusals of the holder", 2, () -> v.refusals(0));
        CHECK.due("refusals of the proxy", 5, () -> v.refusals(1));
        CHECK.due("entries", 4, () -> v.giveBack(0, 0));
        v.rent(0, 0, 1);
        v.pass(200);
        v.drill(0, 1, 2);
        CHECK.badState("enter a drilled box", () -> v.enter(0, 0, 100));
    }

    private static void enterWithNotices() {
        BoxVault v = new BoxVault();
        v.rent(0, 0, 10);
        v.proxy(0, 1, 0, 99999);
        v.pass(39);
        CHECK.due("29 days overdue", 0, () -> v.enter(0, 0, 100));
        v.pass(1);
        CHECK.due("30 days overdue", 3, () -> v.enter(0, 0, 100));
        CHECK.due("a proxy with a notice", 3, () -> v.enter(0, 1, 100));
        v.order(0, 0, 1, 1);
        CHECK.due("an order against notices", 0, () -> v.enter(0, 1, 100));
        v.lift(0);
        v.heir(0, 2, true);
        v.die(0);
        CHECK.due("an heir against notices", 1, () -> v.enter(0, 2, 100));
    }

    private static void enterForAWill() {
        BoxVault v = new BoxVault();
        v.rent(0, 0, 10);
        v.rent(1, 0, 10);
        v.heir(0, 1, true);
        v.heir(0, 2, true);
        v.heir(1, 3, true);
        v.die(0);
        CHECK.due("unlike", 2, () -> v.enter(0, 1, 59));
        CHECK.due("another than an heir", 3, () -> v.enter(0, 3, 100));
        CHECK.due("looks", 1, () -> v.enter(0, 1, 60));
        CHECK.due("looks again", 3, () -> v.enter(0, 1, 60));
        CHECK.due("another heir looks", 3, () -> v.enter(0, 2, 60));
        CHECK.due("in another box", 1, () -> v.enter(1, 2, 100));
        CHECK.due("refusals", 2, () -> v.refusals(1));
        CHECK.due("who has died may not", 0, () -> v.die(3));
        v.order(0, 0, 2, 0);
        CHECK.due("by order, after the look", 0, () -> v.enter(0, 1, 60));
        CHECK.due("an entry and a look", 2, () -> v.giveBack(0, 2));
    }

    private static void enterByOrder() {
        BoxVault v = new BoxVault();
        v.rent(0, 0, 1000);
        v.proxy(0, 1, 0, 99999);
        v.heir(0, 2, true);
        v.order(0, 0, 0, 0);
        CHECK.due("nobody: holder", 3, () -> v.enter(0, 0, 100));
        CHECK.due("nobody: proxy", 3, () -> v.enter(0, 1, 100));
        v.order(0, 0, 1, 3);
        CHECK.due("one: the one", 0, () -> v.enter(0, 3, 60));
        CHECK.due("one: unlike", 2, () -> v.enter(0, 3, 59));
        CHECK.due("one: holder", 3, () -> v.enter(0, 0, 100));
        CHECK.due("one: proxy", 3, () -> v.enter(0, 1, 100));
        v.order(0, 0, 2, 0);
        CHECK.due("heirs: of the living", 3, () -> v.enter(0, 2, 100));
        CHECK.due("heirs: the living holder", 3, () -> v.enter(0, 0, 100));
        v.die(0);
        CHECK.due("heirs: of the dead", 0, () -> v.enter(0, 2, 100));
        CHECK.due("heirs: another", 3, () -> v.enter(0, 3, 100));
        v.order(0, 1, 0, 0);
        CHECK.due("nobody: heir", 3, () -> v.enter(0, 2, 100));
        v.lift(3);
        v.lift(2);
        v.die(3);
        CHECK.due("one: dead", 3, () -> v.enter(0, 3, 100));
        CHECK.due("one: heir", 3, () -> v.enter(0, 2, 100));
        v.lift(1);
        v.lift(0);
        CHECK.due("an entry by order is no look", 1, () -> v.enter(0, 2, 100));
    }

    private static void may() {
        BoxVault v = new BoxVault();
        CHECK.due("may in a free box", 3, () -> v.may(0, 0));
        v.rent(0, 0, 10);
        v.heir(0, 2, true);
        CHECK.due("the holder", 0, () -> v.may(0, 0));
        CHECK.due("another", 3, () -> v.may(0, 1));
        CHECK.due("no refusal", 0, () -> v.refusals(1));
        v.die(0);
        CHECK.due("an heir", 1, () -> v.may(0, 2));
        CHECK.due("an heir still", 1, () -> v.may(0, 2));
        v.order(0, 0, 1, 1);
        CHECK.due("no entry was counted", 0, () -> v.giveBack(0, 1));
        v.rent(0, 1, 1);
        v.pass(200);
        v.drill(0, 2, 3);
        CHECK.due("in a drilled box", 3, () -> v.may(0, 1));
        v.order(0, 0, 1, 1);
        CHECK.due("in a drilled box by order", 3, () -> v.may(0, 1));
    }

    private static void mayAll() {
        BoxVault v = new BoxVault();
        v.rent(0, 0, 10);
        v.rent(1, 1, 500);
        CHECK.due("the holder alone", 1, () -> v.mayAll(0));
        v.proxy(0, 15, 0, 0);
        v.proxy(0, 15, 0, 99999);
        v.proxy(0, 14, 1, 99999);
        CHECK.due("a person counts once", 2, () -> v.mayAll(0));
        for (int heir = 1; heir < 16; heir++) {
            v.heir(0, heir, true);
        }
        v.die(0);
        CHECK.due("all who may look", 15, () -> v.mayAll(0));
        v.order(0, 0, 2, 0);
        CHECK.due("all heirs by order", 15, () -> v.mayAll(0));
        v.order(0, 0, 1, 0);
        CHECK.due("a dead one by order", 0, () -> v.mayAll(0));
        v.lift(1);
        v.lift(0);
        v.enter(0, 5, 60);
        CHECK.due("after the look", 0, () -> v.mayAll(0));
        v.pass(200);
        v.drill(0, 1, 2);
        v.order(0, 0, 1, 1);
        CHECK.due("of a drilled box", 0, () -> v.mayAll(0));
        CHECK.due("another box", 1, () -> v.mayAll(1));
    }

    private static void holder() {
        BoxVault v = new BoxVault();
        v.rent(7, 15, 10);
        CHECK.due("of a rented box", 15, () -> v.holder(7));
        CHECK.due("of the next box", -1, () -> v.holder(6));
        v.pass(200);
        v.drill(7, 1, 2);
        CHECK.due("of a drilled box", 15, () -> v.holder(7));
        v.die(15);
        CHECK.due("a dead holder", 15, () -> v.holder(7));
        v.heir(15, 3, true);
        v.fetch(7, 3);
        CHECK.due("after the fetch", -1, () -> v.holder(7));
    }

    private static void notices() {
        BoxVault v = new BoxVault();
        CHECK.due("of a free box", 0, () -> v.notices(0));
        v.rent(0, 0, 10);
        int[][] dayAndNotices = {{10, 0}, {11, 0}, {39, 0}, {40, 1}, {69, 1}, {70, 2}, {99, 2}, {100, 3}, {131, 3}};
        int day = 0;
        for (int[] row : dayAndNotices) {
            v.pass(row[0] - day);
            day = row[0];
            CHECK.due("on the day " + day, row[1], () -> v.notices(0));
        }
        v.extend(0, 60);
        CHECK.due("after paying", 2, () -> v.notices(0));
        v.pass(100);
        v.drill(0, 1, 2);
        CHECK.due("of a drilled box", 0, () -> v.notices(0));
        v.fetch(0, 0);
        CHECK.due("of a box that is free again", 0, () -> v.notices(0));
        v.rent(0, 0, 10);
        CHECK.due("of a box that is rented again", 0, () -> v.notices(0));
    }

    private static void refusals() {
        BoxVault v = new BoxVault();
        v.rent(0, 0, 10);
        v.rent(1, 1, 10);
        v.enter(0, 1, 100);
        v.enter(1, 0, 0);
        v.enter(1, 1, 59);
        v.enter(1, 1, 60);
        v.may(0, 1);
        CHECK.due("over all boxes", 2, () -> v.refusals(1));
        CHECK.due("of the other", 1, () -> v.refusals(0));
        v.giveBack(0, 0);
        v.die(1);
        CHECK.due("kept after a death", 2, () -> v.refusals(1));
        v.enter(1, 1, 100);
        CHECK.due("of the dead", 3, () -> v.refusals(1));
        CHECK.due("of nobody else", 0, () -> v.refusals(15));
    }

    private static void binding() {
        BoxVault v = new BoxVault();
        CHECK.due("of a free box", -1, () -> v.binding(0));
        v.rent(0, 0, 1);
        v.rent(7, 1, 500);
        v.order(7, 1, 0, 0);
        CHECK.due("of another box", -1, () -> v.binding(0));
        v.order(0, 0, 0, 0);
        v.order(0, 0, 2, 0);
        CHECK.due("the latest of the lower", 2, () -> v.binding(0));
        v.order(0, 1, 0, 0);
        CHECK.due("the higher", 3, () -> v.binding(0));
        v.order(0, 0, 0, 0);
        CHECK.due("the higher before a later lower", 3, () -> v.binding(0));
        v.order(0, 1, 2, 0);
        CHECK.due("the latest of the higher", 5, () -> v.binding(0));
        v.lift(3);
        CHECK.due("as before", 5, () -> v.binding(0));
        v.lift(5);
        CHECK.due("the latest of the lower again", 4, () -> v.binding(0));
        v.lift(4);
        CHECK.due("the one before", 2, () -> v.binding(0));
        v.pass(200);
        v.drill(0, 2, 3);
        CHECK.due("of a drilled box", 2, () -> v.binding(0));
        v.heir(0, 3, true);
        v.die(0);
        v.fetch(0, 3);
        CHECK.due("of a box that is free again", -1, () -> v.binding(0));
        CHECK.due("the other box still", 0, () -> v.binding(7));
    }

    private static void refusedCallsChangeNothing() {
        BoxVault v = new BoxVault();
        v.rent(0, 0, 1);
        v.proxy(0, 1, 0, 99999);
        v.order(0, 0, 1, 2);
        v.rent(1, 3, 1);
        v.die(3);
        v.pass(200);
        v.rent(2, 4, 10);
        CHECK.badState("rent", () -> v.rent(0, 5, 10));
        CHECK.badState("rent by the dead", () -> v.rent(3, 3, 10));
        CHECK.badState("giveBack", () -> v.giveBack(0, 0));
        CHECK.badState("drill", () -> v.drill(0, 0, 1));
        CHECK.badState("fetch", () -> v.fetch(0, 0));
        CHECK.badState("die", () -> v.die(3));
        CHECK.badState("proxy", () -> v.proxy(2, 4, 0, 99999));
        CHECK.badState("order", () -> v.order(3, 0, 0, 0));
        CHECK.badArgument("heir", () -> Check.bit(v.heir(3, 3, true)));
        CHECK.badArgument("enter", () -> v.enter(2, 5, 101));
        CHECK.due("the day", 201, () -> v.pass(1));
        CHECK.due("the next order", 1, () -> v.order(2, 0, 2, 0));
        CHECK.due("the paid day", 11, () -> v.extend(0, 10));
        CHECK.due("holder of 0", 0, () -> v.holder(0));
        CHECK.due("holder of 3", -1, () -> v.holder(3));
        CHECK.due("refusals", 0, () -> v.refusals(5));
        CHECK.due("proxies", 1, () -> v.proxy(2, 5, 0, 0));
        CHECK.due("nobody has a right to the dead one's box", 0, () -> v.mayAll(1));
    }
}
