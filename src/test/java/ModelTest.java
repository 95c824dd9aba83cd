import java.util.ArrayList;
import java.util.List;
import java.util.Random;
import java.util.TreeMap;

/** Long mixed runs, each call answered by the program and by the model alike. */
public final class ModelTest {
    private static final Check CHECK = new Check("ModelTest");
    private static final int RUNS = 3000;
    private static final int CALLS = 512;
    private static final int KINDS = 18;

    /** How often each call came to each kind of answer: a run that reaches little proves little. */
    private static final TreeMap<String, Integer> SEEN = new TreeMap<>();

    private final Random random;
    private final int boxes;
    private final int persons;
    private final int longestPass;
    private final int[] weights = new int[KINDS];
    private final BoxVault vault = new BoxVault();
    private final Model model = new Model();

    private ModelTest(long seed) {
        random = new Random(seed);
        boxes = 1 + random.nextInt(8);
        persons = 3 + random.nextInt(14);
        longestPass = List.of(10, 40, 120, 1000).get(random.nextInt(4));
        for (int i = 0; i < KINDS; i++) {
            weights[i] = 2 + random.nextInt(6);
        }
        weights[8] = random.nextInt(2);
        if (longestPass == 1000) {
            weights[0] = 60;
        }
    }

    public static void main(String[] args) {
        for (int seed = 0; seed < RUNS; seed++) {
            if (!new ModelTest(seed).run(seed)) {
                break;
            }
        }
        for (String kind : List.of("pass ISE", "giveBack >0", "drill >0", "fetch >0", "fetch ISE", "proxy ISE",
                "die >0", "order ISE", "lift 0", "lift 1", "lift ISE", "enter 0", "enter 1", "enter 2", "enter 3",
                "may 0", "may 1", "may 3", "notices 3", "binding >=0")) {
            CHECK.same("runs reach " + kind, "true", Boolean.toString(SEEN.containsKey(kind)));
        }
        CHECK.end();
    }

    /** Answers whether the run went as due; it ends at the first call that did not. */
    private boolean run(int seed) {
        List<String> calls = new ArrayList<>();
        for (int i = 0; i < CALLS; i++) {
            String[] answers = call(pick());
            calls.add(answers[0] + " -> " + answers[1]);
            if (!answers[1].equals(answers[2])) {
                CHECK.same("run " + seed + ", call " + i + ": " + answers[0], answers[2], answers[1]);
                calls.forEach(System.out::println);
                return false;
            }
        }
        return true;
    }

    private int pick() {
        int all = 0;
        for (int weight : weights) {
            all += weight;
        }
        int at = random.nextInt(all);
        for (int i = 0; i < KINDS; i++) {
            at -= weights[i];
            if (at < 0) {
                return i;
            }
        }
        return 0;
    }

    /** Mostly a number in the range, seldom one at its rims or far outside. */
    private int number(int low, int high) {
        if (random.nextInt(40) > 0) {
            return low + random.nextInt(high - low + 1);
        }
        int[] odd = {low - 1, low, high, high + 1, Integer.MIN_VALUE, Integer.MAX_VALUE};
        return odd[random.nextInt(odd.length)];
    }

    private String[] answers(String name, String arguments, Check.Call program, Check.Call due) {
        String got = Check.outcome(program);
        note(name, got);
        return new String[] {name + "(" + arguments + ")", got, Check.outcome(due)};
    }

    private static void note(String name, String got) {
        if (got.equals("IllegalStateException")) {
            SEEN.merge(name + " ISE", 1, Integer::sum);
        } else if (!got.endsWith("Exception")) {
            SEEN.merge(name + " " + got, 1, Integer::sum);
            SEEN.merge(name + (Integer.parseInt(got) > 0 ? " >0" : " <=0"), 1, Integer::sum);
            SEEN.merge(name + (Integer.parseInt(got) >= 0 ? " >=0" : " <0"), 1, Integer::sum);
        }
    }

    private String[] call(int kind) {
        int box = number(0, boxes - 1);
        int person = number(0, persons - 1);
        int other = number(0, persons - 1);
        int days = number(1, longestPass);
        return kind < 11 ? change(kind, box, person, other, days) : ask(kind, box, person);
    }

    private String[] change(int kind, int b, int p, int o, int days) {
        int court = number(0, 1);
        int of = number(0, 2);
        int first = number(0, 2000);
        int last = number(first, first + 2000);
        boolean is = random.nextInt(3) > 0;
        int number = number(0, 29);
        switch (kind) {
            case 0:
                return answers("pass", "" + days, () -> vault.pass(days), () -> model.pass(days));
            case 1:
                return answers("rent", b + ", " + p + ", " + days,
                        () -> vault.rent(b, p, days), () -> model.rent(b, p, days));
            case 2:
                return answers("extend", b + ", " + days, () -> vault.extend(b, days), () -> model.extend(b, days));
            case 3:
                return answers("giveBack", b + ", " + p, () -> vault.giveBack(b, p), () -> model.giveBack(b, p));
            case 4:
                return answers("drill", b + ", " + p + ", " + o,
                        () -> vault.drill(b, p, o), () -> model.drill(b, p, o));
            case 5:
                return answers("fetch", b + ", " + p, () -> vault.fetch(b, p), () -> model.fetch(b, p));
            case 6:
                return answers("proxy", b + ", " + p + ", " + first + ", " + last,
                        () -> vault.proxy(b, p, first, last), () -> model.proxy(b, p, first, last));
            case 7:
                return answers("heir", p + ", " + o + ", " + is,
                        () -> Check.bit(vault.heir(p, o, is)), () -> Check.bit(model.heir(p, o, is)));
            case 8:
                return answers("die", "" + p, () -> vault.die(p), () -> model.die(p));
            case 9:
                return answers("order", b + ", " + court + ", " + of + ", " + p,
                        () -> vault.order(b, court, of, p), () -> model.order(b, court, of, p));
            default:
                return answers("lift", "" + number,
                        () -> Check.bit(vault.lift(number)), () -> Check.bit(model.lift(number)));
        }
    }

    private String[] ask(int kind, int b, int p) {
        int likeness = number(50, 70);
        switch (kind) {
            case 11:
                return answers("enter", b + ", " + p + ", " + likeness,
                        () -> vault.enter(b, p, likeness), () -> model.enter(b, p, likeness));
            case 12:
                return answers("may", b + ", " + p, () -> vault.may(b, p), () -> model.may(b, p));
            case 13:
                return answers("mayAll", "" + b, () -> vault.mayAll(b), () -> model.mayAll(b));
            case 14:
                return answers("holder", "" + b, () -> vault.holder(b), () -> model.holder(b));
            case 15:
                return answers("notices", "" + b, () -> vault.notices(b), () -> model.notices(b));
            case 16:
                return answers("refusals", "" + p, () -> vault.refusals(p), () -> model.refusals(p));
            default:
                return answers("binding", "" + b, () -> vault.binding(b), () -> model.binding(b));
        }
    }
}
