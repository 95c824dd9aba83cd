/** Promise 1: a new object. */
public final class Promise01Test {
    private static final Check CHECK = new Check("promise 1");

    public static void main(String[] args) {
        CHECK.runAll(Promise01Test.class);
    }

    static void allBoxesAreFree() {
        BoxVault v = new BoxVault();
        for (int i = 0; i < 8; i++) {
            int box = i;
            CHECK.due("holder(" + box + ")", -1, () -> v.holder(box));
            CHECK.due("notices(" + box + ")", 0, () -> v.notices(box));
            CHECK.due("binding(" + box + ")", -1, () -> v.binding(box));
            CHECK.due("mayAll(" + box + ")", 0, () -> v.mayAll(box));
            CHECK.badState("extend(" + box + ", 1)", () -> v.extend(box, 1));
            CHECK.badState("fetch(" + box + ", 0)", () -> v.fetch(box, 0));
            CHECK.due("rent of box " + box, 1, () -> v.rent(box, 2 * box, 1));
        }
    }

    static void theDayIs0() {
        CHECK.due("pass(1)", 1, () -> new BoxVault().pass(1));
        CHECK.due("rent for 1 day", 1, () -> new BoxVault().rent(0, 0, 1));
    }

    static void allPersonsAreAlive() {
        BoxVault v = new BoxVault();
        for (int i = 0; i < 16; i++) {
            int person = i;
            CHECK.due("die(" + person + ")", 0, () -> v.die(person));
        }
    }

    static void nobodyHasHeirs() {
        BoxVault v = new BoxVault();
        for (int i = 0; i < 256; i++) {
            int person = i / 16;
            int heir = i % 16;
            if (person != heir) {
                CHECK.due(heir + " as heir of " + person, 0, () -> Check.bit(v.heir(person, heir, false)));
            }
        }
    }

    static void nothingWasRefused() {
        BoxVault v = new BoxVault();
        for (int i = 0; i < 16; i++) {
            int person = i;
            CHECK.due("refusals(" + person + ")", 0, () -> v.refusals(person));
        }
    }

    static void noOrderWasGiven() {
        CHECK.badIndex("lift(0)", () -> Check.bit(new BoxVault().lift(0)));
        CHECK.due("the first order", 0, () -> Vaults.rented().order(0, 0, 0, 0));
    }

    static void objectsStandApart() {
        BoxVault before = new BoxVault();
        BoxVault busy = Vaults.busy();
        CHECK.due("holder in the one", 0, () -> busy.holder(0));
        CHECK.due("holder in one made before", -1, () -> before.holder(0));
        CHECK.due("holder in one made afterwards", -1, () -> new BoxVault().holder(0));
        CHECK.due("day of one made before", 1, () -> before.pass(1));
        CHECK.due("death in one made before", 0, () -> before.die(5));
    }
}
