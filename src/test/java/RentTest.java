/** Promises 1 to 7: a new object, and the calls on boxes and rent. */
public final class RentTest {
    private static final Check CHECK = new Check("RentTest");
    private static final int[] NO_BOX = {-1, 8, Integer.MIN_VALUE, Integer.MAX_VALUE};
    private static final int[] NO_PERSON = {-1, 16, Integer.MIN_VALUE, Integer.MAX_VALUE};
    private static final int[] NO_SPAN = {-1, 0, 1001, Integer.MIN_VALUE, Integer.MAX_VALUE};

    public static void main(String[] args) {
        newObject();
        pass();
        rent();
        rentStartsAnew();
        extend();
        giveBack();
        giveBackUnderOrders();
        drill();
        drillUnderOrders();
        fetch();
        fetchByHeirs();
        fetchUnderOrders();
        CHECK.end();
    }

    /** Box 0 of person 0, drilled on the day 101 when 100 days are not paid. */
    private static BoxVault drilled() {
        BoxVault v = new BoxVault();
        v.rent(0, 0, 1);
        v.pass(101);
        v.drill(0, 1, 2);
        return v;
    }

    private static void newObject() {
        BoxVault v = new BoxVault();
        for (int i = 0; i < 8; i++) {
            int box = i;
            CHECK.due("holder of a new box", -1, () -> v.holder(box));
            CHECK.due("notices of a new box", 0, () -> v.notices(box));
            CHECK.due("binding of a new box", -1, () -> v.binding(box));
            CHECK.due("mayAll of a new box", 0, () -> v.mayAll(box));
            CHECK.due("rent on the day 0", box + 1, () -> v.rent(box, 2 * box, box + 1));
        }
        for (int i = 0; i < 16; i++) {
            int person = i;
            CHECK.due("refusals of a new object", 0, () -> v.refusals(person));
            CHECK.due("alive at first", person < 15 && person % 2 == 0 ? 1 : 0, () -> v.die(person));
        }
        CHECK.badIndex("no order at first", () -> Check.bit(v.lift(0)));
        CHECK.due("one object leaves another alone", -1, () -> new BoxVault().holder(0));
    }

    private static void pass() {
        BoxVault v = new BoxVault();
        for (int days : NO_SPAN) {
            CHECK.badArgument("pass " + days, () -> v.pass(days));
        }
        CHECK.due("pass 1", 1, () -> v.pass(1));
        for (int i = 1; i < 100; i++) {
            int day = 1 + 1000 * i;
            CHECK.due("pass 1000", day, () -> v.pass(1000));
        }
        CHECK.badState("pass beyond the last day", () -> v.pass(999));
        CHECK.badArgument("out of range comes first", () -> v.pass(1001));
        CHECK.due("pass to the last day", 99999, () -> v.pass(998));
        CHECK.badState("pass on the last day", () -> v.pass(1));
        CHECK.due("rent on the last day", 100999, () -> v.rent(0, 0, 1000));
        CHECK.due("extend on the last day", 101999, () -> v.extend(0, 1000));
    }

    private static void rent() {
        BoxVault v = new BoxVault();
        for (int box : NO_BOX) {
            CHECK.badArgument("rent of box " + box, () -> v.rent(box, 0, 1));
        }
        for (int person : NO_PERSON) {
            CHECK.badArgument("rent by " + person, () -> v.rent(0, person, 1));
        }
        for (int days : NO_SPAN) {
            CHECK.badArgument("rent for " + days, () -> v.rent(0, 0, days));
        }
        CHECK.due("wrong rents change nothing", -1, () -> v.holder(0));
        CHECK.due("rent for 1", 1, () -> v.rent(0, 0, 1));
        CHECK.due("rent for 1000", 1000, () -> v.rent(7, 15, 1000));
        CHECK.due("holder", 15, () -> v.holder(7));
        CHECK.badState("rent of a rented box", () -> v.rent(0, 1, 1));
        CHECK.badState("rent of an own box", () -> v.rent(0, 0, 1));
        CHECK.badArgument("out of range comes first", () -> v.rent(0, 0, 1001));
        CHECK.due("holder as before", 0, () -> v.holder(0));
        v.pass(20);
        CHECK.due("rent from the present day", 25, () -> v.rent(1, 0, 5));
        v.die(3);
        CHECK.badState("rent by the dead", () -> v.rent(2, 3, 1));
        CHECK.badArgument("out of range comes before death", () -> v.rent(2, 3, 0));
        CHECK.due("the dead rent nothing", -1, () -> v.holder(2));
        CHECK.badState("rent of a drilled box", () -> drilled().rent(0, 3, 1));
    }

    private static void rentStartsAnew() {
        BoxVault v = new BoxVault();
        v.rent(0, 0, 100);
        v.proxy(0, 1, 0, 99999);
        v.enter(0, 0, 100);
        v.order(0, 0, 2, 0);
        v.heir(0, 2, true);
        v.die(0);
        v.enter(0, 2, 100);
        v.lift(0);
        v.enter(0, 2, 100);
        v.order(0, 1, 1, 3);
        CHECK.due("entries, looks counted", 3, () -> v.giveBack(0, 3));
        v.heir(4, 2, true);
        v.rent(0, 4, 100);
        CHECK.due("proxies ended", 1, () -> v.mayAll(0));
        CHECK.due("a proxy of another time", 3, () -> v.may(0, 1));
        CHECK.due("orders ended", -1, () -> v.binding(0));
        v.die(4);
        CHECK.due("a will may be looked for anew", 1, () -> v.enter(0, 2, 100));
        v.order(0, 0, 1, 2);
        CHECK.due("entries count anew", 1, () -> v.giveBack(0, 2));
    }

    private static void extend() {
        BoxVault v = new BoxVault();
        CHECK.badState("extend of a free box", () -> v.extend(0, 1));
        v.rent(0, 0, 10);
        for (int box : NO_BOX) {
            CHECK.badArgument("extend of box " + box, () -> v.extend(box, 1));
        }
        for (int days : NO_SPAN) {
            CHECK.badArgument("extend by " + days, () -> v.extend(0, days));
            CHECK.badArgument("out of range comes first", () -> v.extend(1, days));
        }
        CHECK.due("extend by 1", 11, () -> v.extend(0, 1));
        v.pass(500);
        CHECK.due("notices before", 3, () -> v.notices(0));
        CHECK.due("extend from the paid day", 411, () -> v.extend(0, 400));
        CHECK.due("notices with 89 days overdue", 2, () -> v.notices(0));
        v.die(0);
        CHECK.due("extend for the dead", 1411, () -> v.extend(0, 1000));
        CHECK.due("no notices then", 0, () -> v.notices(0));
        CHECK.badState("extend of a drilled box", () -> drilled().extend(0, 1));
    }

    private static void giveBack() {
        BoxVault v = new BoxVault();
        CHECK.badState("giveBack of a free box", () -> v.giveBack(0, 0));
        v.rent(0, 0, 10);
        for (int box : NO_BOX) {
            CHECK.badArgument("giveBack of box " + box, () -> v.giveBack(box, 0));
        }
        for (int person : NO_PERSON) {
            CHECK.badArgument("giveBack by " + person, () -> v.giveBack(0, person));
            CHECK.badArgument("out of range comes first", () -> v.giveBack(1, person));
        }
        CHECK.badState("giveBack by another", () -> v.giveBack(0, 1));
        v.enter(0, 0, 60);
        v.enter(0, 0, 59);
        v.enter(0, 1, 100);
        v.proxy(0, 1, 0, 10);
        v.enter(0, 1, 100);
        v.pass(11);
        CHECK.badState("giveBack by a past proxy", () -> v.giveBack(0, 1));
        CHECK.due("giveBack counts what was not refused", 2, () -> v.giveBack(0, 0));
        CHECK.due("free then", -1, () -> v.holder(0));
        CHECK.due("refusals stay", 1, () -> v.refusals(1));
        v.rent(0, 1, 10);
        v.proxy(0, 2, 11, 11);
        CHECK.due("giveBack by a proxy", 0, () -> v.giveBack(0, 2));
        v.rent(0, 1, 1);
        v.pass(31);
        CHECK.badState("giveBack with a notice", () -> v.giveBack(0, 1));
        v.extend(0, 1);
        CHECK.due("giveBack when 29 days overdue", 0, () -> v.giveBack(0, 1));
        CHECK.badState("giveBack of a drilled box", () -> drilled().giveBack(0, 0));
    }

    private static void giveBackUnderOrders() {
        BoxVault v = new BoxVault();
        v.rent(0, 0, 10);
        v.heir(0, 1, true);
        v.order(0, 0, 0, 0);
        CHECK.badState("giveBack where nobody may", () -> v.giveBack(0, 0));
        v.order(0, 0, 2, 0);
        CHECK.badState("giveBack by an heir of the living", () -> v.giveBack(0, 1));
        v.lift(1);
        v.lift(0);
        v.die(0);
        CHECK.badState("giveBack by the dead", () -> v.giveBack(0, 0));
        CHECK.badState("giveBack by one who may just look", () -> v.giveBack(0, 1));
        CHECK.due("a refused giveBack is no refusal", 0, () -> v.refusals(1));
        CHECK.due("nor is it a look", 1, () -> v.may(0, 1));
        v.order(0, 0, 2, 0);
        v.pass(1000);
        CHECK.due("giveBack by an heir by order", 0, () -> v.giveBack(0, 1));
        CHECK.badState("its order holds no more", () -> Check.bit(v.lift(2)));
    }

    private static void drill() {
        BoxVault v = new BoxVault();
        CHECK.badState("drill of a free box", () -> v.drill(0, 1, 2));
        v.rent(0, 0, 1);
        for (int box : NO_BOX) {
            CHECK.badArgument("drill of box " + box, () -> v.drill(box, 1, 2));
        }
        for (int person : NO_PERSON) {
            CHECK.badArgument("drill by one " + person, () -> v.drill(0, person, 2));
            CHECK.badArgument("drill by other " + person, () -> v.drill(0, 1, person));
        }
        CHECK.badArgument("the same witness", () -> v.drill(0, 1, 1));
        CHECK.badArgument("the same witness comes first", () -> v.drill(1, 1, 1));
        v.pass(90);
        CHECK.badState("drill when 89 days overdue", () -> v.drill(0, 1, 2));
        v.pass(1);
        CHECK.badState("the holder as one", () -> v.drill(0, 0, 2));
        CHECK.badState("the holder as other", () -> v.drill(0, 1, 0));
        v.die(3);
        CHECK.badState("the dead as one", () -> v.drill(0, 3, 2));
        CHECK.badState("the dead as other", () -> v.drill(0, 1, 3));
        CHECK.due("still rented", 3, () -> v.notices(0));
        CHECK.due("drill when 90 days overdue", 90, () -> v.drill(0, 1, 2));
        CHECK.due("no notices then", 0, () -> v.notices(0));
        CHECK.due("a holder still", 0, () -> v.holder(0));
        CHECK.due("nobody may enter", 0, () -> v.mayAll(0));
        CHECK.badState("drill of a drilled box", () -> v.drill(0, 1, 2));
        v.rent(1, 0, 1);
        v.pass(200);
        v.die(0);
        CHECK.badState("the dead holder as a witness", () -> v.drill(1, 0, 1));
        CHECK.due("drill of a dead holder's box", 199, () -> v.drill(1, 15, 14));
    }

    private static void drillUnderOrders() {
        for (int kind = 0; kind < 3; kind++) {
            BoxVault v = new BoxVault();
            v.rent(0, 0, 1);
            v.pass(500);
            v.order(0, 0, kind, 1);
            if (kind == 0) {
                CHECK.badState("drill where nobody may", () -> v.drill(0, 1, 2));
                v.order(0, 1, 1, 5);
            } else {
                v.order(0, 1, 0, 5);
                CHECK.badState("drill where the higher court forbids", () -> v.drill(0, 1, 2));
                v.lift(1);
            }
            CHECK.due("drill under another order", 499, () -> v.drill(0, 1, 2));
            CHECK.due("orders hold on", kind == 0 ? 1 : 0, () -> v.binding(0));
        }
    }

    private static void fetch() {
        BoxVault v = new BoxVault();
        CHECK.badState("fetch from a free box", () -> v.fetch(0, 0));
        v.rent(0, 0, 1);
        CHECK.badState("fetch from a rented box", () -> v.fetch(0, 0));
        v.proxy(0, 3, 0, 99999);
        v.heir(0, 4, true);
        v.pass(131);
        v.drill(0, 1, 2);
        v.pass(1000);
        for (int box : NO_BOX) {
            CHECK.badArgument("fetch from box " + box, () -> v.fetch(box, 0));
        }
        for (int person : NO_PERSON) {
            CHECK.badArgument("fetch by " + person, () -> v.fetch(0, person));
            CHECK.badArgument("out of range comes first", () -> v.fetch(1, person));
        }
        CHECK.badState("fetch by a proxy", () -> v.fetch(0, 3));
        CHECK.badState("fetch by an heir of the living", () -> v.fetch(0, 4));
        CHECK.badState("fetch by another", () -> v.fetch(0, 5));
        CHECK.due("still drilled", 0, () -> v.holder(0));
        CHECK.due("fetch by the holder", 130, () -> v.fetch(0, 0));
        CHECK.due("free then", -1, () -> v.holder(0));
        CHECK.badState("fetch again", () -> v.fetch(0, 0));
        CHECK.due("rent again", 1132, () -> v.rent(0, 0, 1));
        CHECK.due("no proxies then", 1, () -> v.mayAll(0));
        CHECK.due("the first proxy", 1, () -> v.proxy(0, 3, 0, 99999));
    }

    private static void fetchByHeirs() {
        BoxVault v = drilled();
        v.die(0);
        v.heir(0, 3, true);
        v.heir(0, 4, true);
        v.heir(3, 5, true);
        v.die(3);
        CHECK.badState("fetch by the dead holder", () -> v.fetch(0, 0));
        CHECK.badState("fetch by a dead heir", () -> v.fetch(0, 3));
        CHECK.badState("fetch by an heir's heir", () -> v.fetch(0, 5));
        CHECK.due("fetch by an heir", 100, () -> v.fetch(0, 4));
        CHECK.badState("an heir fetches once", () -> v.fetch(0, 4));
    }

    private static void fetchUnderOrders() {
        BoxVault v = drilled();
        v.heir(0, 3, true);
        v.order(0, 0, 0, 0);
        CHECK.badState("fetch where nobody may", () -> v.fetch(0, 0));
        v.order(0, 0, 1, 5);
        CHECK.badState("the holder is not the one", () -> v.fetch(0, 0));
        v.die(5);
        CHECK.badState("the one is dead", () -> v.fetch(0, 5));
        v.order(0, 0, 2, 0);
        CHECK.badState("the holder when heirs may", () -> v.fetch(0, 0));
        CHECK.badState("an heir of the living when heirs may", () -> v.fetch(0, 3));
        v.die(0);
        v.order(0, 1, 1, 6);
        CHECK.badState("an heir is not the one", () -> v.fetch(0, 3));
        v.lift(3);
        CHECK.badState("another when heirs may", () -> v.fetch(0, 6));
        CHECK.due("an heir when heirs may", 100, () -> v.fetch(0, 3));
        CHECK.due("nothing binds then", -1, () -> v.binding(0));
        CHECK.badState("all its orders ended", () -> Check.bit(v.lift(0)));

        BoxVault w = drilled();
        w.order(0, 0, 1, 6);
        CHECK.due("the one fetches", 100, () -> w.fetch(0, 6));
    }
}
