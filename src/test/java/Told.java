import java.util.ArrayList;
import java.util.List;

/**
 * All that a vault holds, brought out by asking. There are several ways, each for
 * a vault of its own: most of what is asked changes the vault. No way takes more
 * than 300 calls, so that some 200 of an object's 512 are left to the test.
 */
final class Told {
    static final int WAYS = 8;

    private static final int BOXES = 8;
    private static final int PERSONS = 16;
    private static final int ORDERS = 30;

    private final BoxVault vault;
    private final List<String> answers = new ArrayList<>();

    private Told(BoxVault vault) {
        this.vault = vault;
    }

    static List<String> by(int way, BoxVault vault) {
        Told told = new Told(vault);
        switch (way) {
            case 0 -> told.openly();
            case 1 -> told.payments();
            case 2 -> told.proxies();
            case 3 -> told.daysToCome();
            case 4 -> told.orders();
            case 5 -> told.heirs();
            case 6 -> told.entries();
            default -> told.wills();
        }
        return told.answers;
    }

    private String put(String call, Check.Call made) {
        String outcome = Check.outcome(made);
        answers.add(call + " -> " + outcome);
        return outcome;
    }

    private void openly() {
        for (int i = 0; i < BOXES; i++) {
            int box = i;
            put("holder(" + box + ")", () -> vault.holder(box));
            put("notices(" + box + ")", () -> vault.notices(box));
            put("binding(" + box + ")", () -> vault.binding(box));
            put("mayAll(" + box + ")", () -> vault.mayAll(box));
            for (int j = 0; j < PERSONS; j++) {
                int person = j;
                put("may(" + box + ", " + person + ")", () -> vault.may(box, person));
            }
        }
        for (int i = 0; i < PERSONS; i++) {
            int person = i;
            put("refusals(" + person + ")", () -> vault.refusals(person));
        }
        put("pass(1)", () -> vault.pass(1));
    }

    private void payments() {
        for (int i = 0; i < BOXES; i++) {
            int box = i;
            put("extend(" + box + ", 1)", () -> vault.extend(box, 1));
            put("drill(" + box + ", 14, 15)", () -> vault.drill(box, 14, 15));
            for (int j = 0; j < PERSONS; j++) {
                int person = j;
                put("fetch(" + box + ", " + person + ")", () -> vault.fetch(box, person));
            }
            put("rent(" + box + ", 15, 1)", () -> vault.rent(box, 15, 1));
        }
    }

    private void proxies() {
        for (int i = 0; i < BOXES; i++) {
            int box = i;
            for (int count = 1; count <= 6; count++) {
                put("proxy(" + box + ", 15, 0, 0)", () -> vault.proxy(box, 15, 0, 0));
            }
        }
    }

    private void daysToCome() {
        for (int days = 1; days <= 30; days++) {
            put("pass(1)", () -> vault.pass(1));
            for (int i = 0; i < BOXES; i++) {
                int box = i;
                put("mayAll(" + box + ")", () -> vault.mayAll(box));
            }
        }
    }

    /** The latest is lifted first, so that each one comes to bind. */
    private void orders() {
        for (int i = ORDERS; i >= 0; i--) {
            int number = i;
            if (put("lift(" + number + ")", () -> Check.bit(vault.lift(number))).length() == 1) {
                for (int j = 0; j < BOXES; j++) {
                    int box = j;
                    put("mayAll(" + box + ")", () -> vault.mayAll(box));
                }
            }
        }
        put("rent(7, 15, 1)", () -> vault.rent(7, 15, 1));
        put("order(7, 0, 0, 0)", () -> vault.order(7, 0, 0, 0));
    }

    private void heirs() {
        for (int i = 0; i < PERSONS * PERSONS; i++) {
            int person = i / PERSONS;
            int heir = i % PERSONS;
            if (person != heir) {
                put("heir(" + person + ", " + heir + ", false)",
                        () -> Check.bit(vault.heir(person, heir, false)));
            }
        }
    }

    private void entries() {
        for (int i = 0; i < BOXES; i++) {
            int box = i;
            put("giveBack(" + box + ", its holder)", () -> vault.giveBack(box, vault.holder(box)));
            put("order(" + box + ", 1, 1, 15)", () -> vault.order(box, 1, 1, 15));
            put("giveBack(" + box + ", 15)", () -> vault.giveBack(box, 15));
            put("fetch(" + box + ", 15)", () -> vault.fetch(box, 15));
        }
    }

    private void wills() {
        for (int i = 0; i < ORDERS; i++) {
            int number = i;
            put("lift(" + number + ")", () -> Check.bit(vault.lift(number)));
        }
        for (int i = 0; i < PERSONS - 1; i++) {
            int person = i;
            put("heir(" + person + ", 15, true)", () -> Check.bit(vault.heir(person, 15, true)));
            put("die(" + person + ")", () -> vault.die(person));
        }
        for (int i = 0; i < BOXES; i++) {
            int box = i;
            put("may(" + box + ", 15)", () -> vault.may(box, 15));
        }
        put("die(15)", () -> vault.die(15));
    }
}
