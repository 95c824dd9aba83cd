/** Promise 2: pass. */
public final class Promise02Test {
    private static final Check CHECK = new Check("promise 2");

    public static void main(String[] args) {
        CHECK.runAll(Promise02Test.class);
    }

    static void theDayThenIsAnswered() {
        BoxVault v = new BoxVault();
        CHECK.due("pass(7)", 7, () -> v.pass(7));
        CHECK.due("pass(7) again", 14, () -> v.pass(7));
    }

    static void daysAre1To1000() {
        CHECK.due("pass(1)", 1, () -> new BoxVault().pass(1));
        CHECK.due("pass(1000)", 1000, () -> new BoxVault().pass(1000));
        for (int days : Outside.SPANS) {
            CHECK.refusesArgument("pass(" + days + ")", Vaults::busy, v -> v.pass(days));
        }
    }

    static void theLastDayIs99999() {
        CHECK.due("pass to the last day", 99999, () -> Vaults.onDay(99998).pass(1));
        CHECK.due("pass to the last day from afar", 99999, () -> Vaults.onDay(98999).pass(1000));
        CHECK.refusesState("pass by a day too much", () -> Vaults.onDay(99999), v -> v.pass(1));
        CHECK.refusesState("pass by a day too much from afar", () -> Vaults.onDay(99000), v -> v.pass(1000));
        CHECK.refusesState("pass far beyond", () -> Vaults.onDay(99999), v -> v.pass(1000));
    }

    static void afterARefusedPassTheRestOfTheDaysIsThere() {
        BoxVault v = Vaults.onDay(99000);
        CHECK.badState("pass(1000)", () -> v.pass(1000));
        CHECK.due("pass(999)", 99999, () -> v.pass(999));
    }

    static void daysOutOfRangeComeBeforeTheLastDay() {
        for (int days : Outside.SPANS) {
            CHECK.refusesArgument("pass(" + days + ")", () -> Vaults.onDay(99999), v -> v.pass(days));
        }
    }
}
