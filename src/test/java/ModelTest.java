import java.util.ArrayList;
import java.util.Arrays;
import java.util.HashSet;
import java.util.List;
import java.util.Random;
import java.util.Set;

/** Long runs of calls, the same on a GraphKeep and on the Model, whose answers must be the same. */
public final class ModelTest {
    /** How often each kind of call comes; the order is that of step(). */
    private static final int[][] MIXES = {
        // type node label property link take done undo begin commit rollback checkpoint cut recover
        {4, 8, 8, 14, 8, 8, 6, 2, 2, 2, 1, 1, 1, 1},
        {4, 4, 10, 20, 10, 20, 4, 2, 2, 2, 2, 1, 2, 2},
        {1, 40, 4, 2, 50, 4, 1, 0, 0, 0, 0, 0, 0, 0},
        {1, 30, 10, 5, 40, 30, 1, 1, 0, 0, 0, 1, 0, 0},
        {2, 20, 30, 30, 20, 5, 1, 0, 1, 1, 0, 0, 0, 0},
        {2, 20, 30, 30, 20, 5, 9, 1, 0, 0, 0, 0, 0, 0},
        {2, 20, 30, 30, 20, 5, 20, 1, 1, 1, 0, 1, 3, 2},
        {2, 10, 20, 20, 10, 10, 10, 3, 6, 10, 1, 3, 8, 6},
        {2, 16, 20, 60, 20, 4, 0, 0, 0, 0, 0, 0, 0, 0},
        {4, 20, 40, 120, 20, 20, 6, 1, 4, 1, 0, 0, 0, 0},
        {4, 20, 40, 120, 20, 20, 12, 0, 6, 4, 0, 0, 0, 0},
    };
    private static final int[] ODD = {-1, -2, -3, 63, 64, 95, 96, Integer.MIN_VALUE, Integer.MAX_VALUE};
    private static final int RUNS = 600;
    /** Runs that came to none of these would say little. */
    private static final String[] REACHED = {
        "node 63", "node ERROR 6", "node ERROR 9", "label ERROR 6", "label ERROR 8", "label ERROR 9",
        "property ERROR 2", "property ERROR 6", "property ERROR 8", "property ERROR 9",
        "link 95", "link ERROR 6", "link ERROR 8", "link ERROR 9", "take ERROR 7", "take ERROR 8", "take ERROR 9",
        "done ERROR 9", "done " + Due.OFF, "commit -2", "commit " + Due.OFF, "checkpoint " + Due.OFF, "recover 3",
    };

    private final Due due;
    private final Random random;
    private final Real keep = new Real();
    private final Model model = new Model();
    private final List<String> calls = new ArrayList<>();
    private final int spread;
    private final Set<String> reached;

    private ModelTest(Due due, long seed, Set<String> reached) {
        this.due = due;
        this.reached = reached;
        this.random = new Random(seed);
        this.spread = 2 + random.nextInt(64);
    }

    public static void main(String[] args) {
        Due due = new Due("ModelTest");
        Set<String> reached = new HashSet<>();
        for (int mix = 0; mix < MIXES.length; mix++) {
            for (int run = 0; run < RUNS && due.wrong() == 0; run++) {
                due.part("mix " + mix + ", run " + run);
                new ModelTest(due, 10000L * mix + run, reached).run(MIXES[mix]);
            }
        }
        due.part("what the runs reached");
        for (String wanted : REACHED) {
            due.is(wanted, reached.contains(wanted), true);
        }
        due.end();
    }

    /** Some runs look often, some only at the end, so that they get farther within the calls of an object. */
    private void run(int[] mix) {
        int looks = Math.max(0, random.nextInt(4) - 1);
        int looksAtEnd = 40 + random.nextInt(160);
        while (keep.callsLeft() > looksAtEnd && due.wrong() == 0) {
            step(choose(mix));
            for (int i = 0; i < looks; i++) {
                look();
            }
        }
        while (keep.callsLeft() > 0 && due.wrong() == 0) {
            look();
        }
        if (due.wrong() != 0) {
            calls.forEach(call -> System.out.println("  " + call));
        }
    }

    private int choose(int... weights) {
        int left = random.nextInt(Arrays.stream(weights).sum());
        int chosen = 0;
        while (left >= weights[chosen]) {
            left -= weights[chosen];
            chosen++;
        }
        return chosen;
    }

    private void both(String what, Ask ask) {
        String got = Due.answer(ask, keep);
        calls.add(what + " = " + got);
        due.is(what, got, Due.answer(ask, model));
        reached.add(what.replaceAll("\\(.*", "") + " " + (got.equals(Due.ERROR) ? "ERROR " + model.error() : got));
    }

    private int number() {
        if (random.nextInt(25) == 0) {
            return ODD[random.nextInt(ODD.length)];
        }
        int used = Math.max(model.state(0), model.state(1));
        return random.nextInt(Math.min(spread, used + 2));
    }

    private int kindOfThing() {
        return random.nextInt(25) == 0 ? random.nextInt(8) - 1 : 4 + random.nextInt(2);
    }

    /** A LABEL or KEY: few, so that they are met again. */
    private int name() {
        return random.nextInt(8) - 1;
    }

    private void step(int which) {
        int a = number();
        int b = number();
        int c = name();
        int thing = kindOfThing();
        switch (which) {
            case 0 -> typeSome();
            case 1 -> both("node()", Face::node);
            case 2 -> {
                boolean on = random.nextInt(3) > 0;
                both("label(" + a + ", " + c + ", " + on + ")", x -> x.label(a, c, on));
            }
            case 3 -> propertySome(thing, a, c);
            case 4 -> both("link(" + a + ", " + b + ", " + c + ")", x -> x.link(a, b, c));
            case 5 -> both("take(" + thing + ", " + a + ")", Ask.take(thing, a));
            case 6 -> both("done()", Face::done);
            case 7 -> both("undo()", Face::undo);
            case 8 -> both("begin()", Face::begin);
            case 9 -> both("commit()", Face::commit);
            case 10 -> both("rollback()", Face::rollback);
            case 11 -> both("checkpoint()", Face::checkpoint);
            case 12 -> cutSome();
            default -> both("recover()", Face::recover);
        }
    }

    private void typeSome() {
        int n = random.nextInt(12) == 0 ? random.nextInt(12) - 1 : 1 + random.nextInt(8);
        long word = 0;
        for (int i = 0; i < 8; i++) {
            boolean odd = random.nextInt(60) == 0;
            word = word << 8 | (odd ? random.nextInt(256) : 97 + random.nextInt(2));
        }
        long typed = word;
        both("type(" + typed + ", " + n + ")", x -> x.type(typed, n));
    }

    private void propertySome(int thing, int n, int key) {
        int kind = random.nextInt(20) == 0 ? random.nextInt(8) - 2 : random.nextInt(4);
        long v = random.nextInt(20) == 0 ? random.nextLong() : random.nextInt(kind == 1 ? 100 : 2);
        both("property(" + thing + ", " + n + ", " + key + ", " + kind + ", " + v + ")", x -> x.property(thing, n, key, kind, v));
    }

    private void cutSome() {
        int n = random.nextInt(10) == 0 ? random.nextInt(2100) - 50 : random.nextInt(40);
        both("cut(" + n + ")", x -> x.cut(n));
    }

    private void look() {
        int n = number();
        int thing = kindOfThing();
        int name = name();
        boolean out = random.nextBoolean();
        int what = random.nextInt(9) - 1;
        switch (choose(1, 4, 4, 3, 2, 4)) {
            case 0 -> both("error()", Face::error);
            case 1 -> both("state(" + what + ")", x -> x.state(what));
            case 2 -> both("thing(" + thing + ", " + n + ", " + what % 5 + ")", x -> x.thing(thing, n, what % 5));
            case 3 -> both("chain(" + n + ", " + out + ", " + what + ")", x -> x.chain(n, out, what));
            case 4 -> both("has(" + n + ", " + name + ")", x -> x.has(n, name));
            default -> both("value(" + thing + ", " + n + ", " + name + ", " + (what - 2) + ")",
                x -> x.value(thing, n, name, what - 2));
        }
    }
}
