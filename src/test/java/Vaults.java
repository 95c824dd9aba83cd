/** Vaults to begin a test with. */
final class Vaults {
    private Vaults() {
    }

    /** All boxes are free. */
    static BoxVault onDay(int day) {
        BoxVault v = new BoxVault();
        for (int i = 0; i < day / 1000; i++) {
            v.pass(1000);
        }
        if (day % 1000 > 0) {
            v.pass(day % 1000);
        }
        return v;
    }

    /** Box 0 of person 0, paid up to the day 1000; the day is 0. */
    static BoxVault rented() {
        BoxVault v = new BoxVault();
        v.rent(0, 0, 1000);
        return v;
    }

    /** Box 0 of person 0, paid up to the day 1 and overdue by 1 to 999 days. */
    static BoxVault overdue(int days) {
        BoxVault v = new BoxVault();
        v.rent(0, 0, 1);
        v.pass(1 + days);
        return v;
    }

    /** Box 0 of person 0, drilled by 14 and 15 when 100 days were not paid. */
    static BoxVault drilled() {
        BoxVault v = overdue(100);
        v.drill(0, 14, 15);
        return v;
    }

    /** Boxes 0 and 1 of person 0, who is dead; the heirs are 1, 2 and 3, of whom 3 is dead. */
    static BoxVault orphaned() {
        BoxVault v = rented();
        v.rent(1, 0, 1000);
        v.heir(0, 1, true);
        v.heir(0, 2, true);
        v.heir(0, 3, true);
        v.die(0);
        v.die(3);
        return v;
    }

    /** Box 0 of person 0 with an order of the lower court, the number 0. */
    static BoxVault ordered(int kind, int person) {
        BoxVault v = rented();
        v.order(0, 0, kind, person);
        return v;
    }

    /** Box 0 of person 0 with the proxies 1 to 5 for all days. */
    static BoxVault fullOfProxies() {
        BoxVault v = rented();
        for (int person = 1; person <= 5; person++) {
            v.proxy(0, person, 0, 99999);
        }
        return v;
    }

    /** Boxes 0 and 1 of the persons 0 and 1; 30 orders of the lower court, for them by turns, that nobody may enter. */
    static BoxVault fullOfOrders() {
        BoxVault v = rented();
        v.rent(1, 1, 1000);
        for (int i = 0; i < 30; i++) {
            v.order(i % 2, 0, 0, 0);
        }
        return v;
    }

    /**
     * Something of everything, on the day 101; the persons 14 and 15 have no part in it.
     * Box 0 of person 0: three proxies, two entries. Box 1 of person 4: five proxies.
     * Boxes 2 and 3 of person 5, who is dead: the heirs are 6, 7 and the dead 8; in
     * box 3 a will was looked for. Box 4 of person 9, whose heir is 10: drilled the
     * day before. Box 5 of person 11: 100 days overdue. Box 6 of person 12: order 2 binds, order 1 holds,
     * order 3 is lifted. Box 7 is free; order 0 was for it.
     */
    static BoxVault busy() {
        BoxVault v = new BoxVault();
        v.rent(7, 3, 10);
        v.order(7, 1, 1, 3);
        v.giveBack(7, 3);
        v.rent(4, 9, 1);
        v.heir(9, 10, true);
        v.rent(5, 11, 1);
        v.pass(100);
        v.drill(4, 1, 2);
        v.pass(1);
        openBoxes(v);
        boxesOfTheDead(v);
        v.rent(6, 12, 500);
        v.order(6, 0, 1, 13);
        v.order(6, 1, 0, 0);
        v.order(6, 1, 2, 0);
        v.lift(3);
        return v;
    }

    private static void openBoxes(BoxVault v) {
        v.rent(0, 0, 500);
        v.proxy(0, 1, 0, 99999);
        v.proxy(0, 2, 110, 120);
        v.proxy(0, 3, 0, 100);
        v.enter(0, 0, 100);
        v.enter(0, 1, 60);
        v.enter(0, 1, 59);
        v.enter(0, 2, 100);
        v.rent(1, 4, 500);
        for (int person = 6; person <= 10; person++) {
            v.proxy(1, person, 100, 100 + person);
        }
    }

    private static void boxesOfTheDead(BoxVault v) {
        v.rent(2, 5, 500);
        v.rent(3, 5, 500);
        v.heir(5, 6, true);
        v.heir(5, 7, true);
        v.heir(5, 8, true);
        v.die(5);
        v.die(8);
        v.enter(3, 6, 100);
    }
}
