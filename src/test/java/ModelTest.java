import java.util.ArrayDeque;
import java.util.Deque;
import java.util.HashSet;
import java.util.Random;
import java.util.Set;

/** Long runs of calls, the same on a GraphKeep and on the Model, whose answers must be the same. */
public final class ModelTest {
    /** How often each kind of call comes; the order is that of step(). */
    private static final int[][] MIXES = {
        // type node label property link take done undo begin commit rollback checkpoint cut recover
        {4, 8, 8, 14, 8, 8, 6, 2, 2, 2, 1, 1, 1, 1},
        {4, 4, 10, 20, 10, 20, 4, 2, 2, 2, 2, 1, 2, 2},
        {1, 40, 4, 2, 50, 4, 1, 0, 0, 0, 0, 0, 0, 0},
        {1, 30, 10, 5, 40, 30, 1, 1, 0, 0, 0, 1, 0, 0},
        {2, 20, 30, 30, 20, 5, 1, 0, 1, 1, 0, 0, 0, 0},
        {2, 20, 30, 30, 20, 5, 9, 1, 0, 0, 0, 0, 0, 0},
        {2, 20, 30, 30, 20, 5, 20, 1, 1, 1, 0, 1, 3, 2},
        {2, 10, 20, 20, 10, 10, 10, 3, 6, 10, 1, 3, 8, 6},
        {2, 10, 20, 60, 10, 10, 0, 0, 0, 0, 0, 0, 0, 0},
        {4, 20, 40, 120, 20, 20, 6, 1, 4, 1, 0, 0, 0, 0},
        {4, 20, 40, 120, 20, 20, 12, 0, 6, 4, 0, 0, 0, 0},
    };
    private static final int[] ODD = {-1, -2, -3, 63, 64, 95, 96, Integer.MIN_VALUE, Integer.MAX_VALUE};
    private static final int CALLS = 512;
    /** Runs that came to none of these would say little. */
    private static final String[] REACHED = {
        "node 63", "node ERROR 6", "node ERROR 9", "label ERROR 6", "label ERROR 8", "label ERROR 9",
        "property ERROR 2", "property ERROR 6", "property ERROR 8", "property ERROR 9",
        "link 95", "link ERROR 6", "link ERROR 8", "link ERROR 9", "take ERROR 7", "take ERROR 8", "take ERROR 9",
        "done ERROR 9", "done " + Due.OFF, "commit -2", "commit " + Due.OFF, "checkpoint " + Due.OFF, "recover 3",
    };

    private final Due due;
    private final Random random;
    private final GraphKeep keep = new GraphKeep();
    private final Model model = new Model();
    private final Deque<String> latest = new ArrayDeque<>();
    private final int spread;
    private final Set<String> reached;

    private ModelTest(Due due, long seed, Set<String> reached) {
        this.due = due;
        this.reached = reached;
        this.random = new Random(seed);
        this.spread = 2 + random.nextInt(64);
    }

    public static void main(String[] args) {
        Due due = new Due("ModelTest");
        Set<String> reached = new HashSet<>();
        for (int mix = 0; mix < MIXES.length; mix++) {
            for (int run = 0; run < 40 && due.wrong() == 0; run++) {
                due.part("mix " + mix + ", run " + run);
                new ModelTest(due, 1000L * mix + run, reached).run(MIXES[mix]);
            }
        }
        due.part("what the runs reached");
        for (String wanted : REACHED) {
            due.is(wanted, reached.contains(wanted), true);
        }
        due.end();
    }

    private void run(int[] mix) {
        for (int i = 0; i < CALLS && due.wrong() == 0; i++) {
            step(choose(mix));
            look();
            if (i % 256 == 255) {
                lookAtAll();
            }
        }
        if (due.wrong() != 0) {
            latest.forEach(call -> System.out.println("  " + call));
        }
    }

    private int choose(int[] mix) {
        int sum = 0;
        for (int weight : mix) {
            sum += weight;
        }
        int left = random.nextInt(sum);
        int chosen = 0;
        while (left >= mix[chosen]) {
            left -= mix[chosen];
            chosen++;
        }
        return chosen;
    }

    private void both(String what, Due.Call real, Due.Call wanted) {
        String got = Due.answer(real);
        latest.addLast(what + " = " + got);
        if (latest.size() > 30) {
            latest.removeFirst();
        }
        due.is(what, got, Due.answer(wanted));
        reached.add(what.replaceAll("\\(.*", "") + " " + (got.equals(Due.ERROR) ? "ERROR " + keep.error() : got));
    }

    private int number() {
        if (random.nextInt(25) == 0) {
            return ODD[random.nextInt(ODD.length)];
        }
        int used = Math.max(model.state(0), model.state(1));
        return random.nextInt(Math.min(spread, used + 2));
    }

    private int kindOfThing() {
        return random.nextInt(25) == 0 ? random.nextInt(8) - 1 : 4 + random.nextInt(2);
    }

    private void step(int which) {
        int a = number();
        int b = number();
        int c = random.nextInt(8) - 1;
        int thing = kindOfThing();
        switch (which) {
            case 0 -> typeSome();
            case 1 -> both("node()", keep::node, model::node);
            case 2 -> {
                boolean on = random.nextInt(3) > 0;
                both("label(" + a + ", " + c + ", " + on + ")", () -> keep.label(a, c, on), () -> model.label(a, c, on));
            }
            case 3 -> propertySome(thing, a, c);
            case 4 -> both("link(" + a + ", " + b + ", " + c + ")", () -> keep.link(a, b, c), () -> model.link(a, b, c));
            case 5 -> both("take(" + thing + ", " + a + ")", () -> Due.answer(() -> keep.take(thing, a)),
                () -> Due.answer(() -> model.take(thing, a)));
            case 6 -> both("done()", keep::done, model::done);
            case 7 -> both("undo()", keep::undo, model::undo);
            case 8 -> both("begin()", keep::begin, model::begin);
            case 9 -> both("commit()", keep::commit, model::commit);
            case 10 -> both("rollback()", keep::rollback, model::rollback);
            case 11 -> both("checkpoint()", keep::checkpoint, model::checkpoint);
            case 12 -> cutSome();
            default -> both("recover()", keep::recover, model::recover);
        }
    }

    private void typeSome() {
        int n = random.nextInt(12) == 0 ? random.nextInt(12) - 1 : 1 + random.nextInt(8);
        long word = 0;
        for (int i = 0; i < 8; i++) {
            boolean odd = random.nextInt(60) == 0;
            word = word << 8 | (odd ? random.nextInt(256) : 97 + random.nextInt(2));
        }
        long typed = word;
        both("type(" + typed + ", " + n + ")", () -> keep.type(typed, n), () -> model.type(typed, n));
    }

    private void propertySome(int thing, int n, int key) {
        int kind = random.nextInt(20) == 0 ? random.nextInt(8) - 2 : random.nextInt(4);
        long v = random.nextInt(20) == 0 ? random.nextLong() : random.nextInt(kind == 1 ? 100 : 2);
        both("property(" + thing + ", " + n + ", " + key + ", " + kind + ", " + v + ")",
            () -> keep.property(thing, n, key, kind, v), () -> model.property(thing, n, key, kind, v));
    }

    private void cutSome() {
        int n = random.nextInt(10) == 0 ? random.nextInt(2100) - 50 : random.nextInt(40);
        both("cut(" + n + ")", () -> keep.cut(n), () -> model.cut(n));
    }

    private void look() {
        both("error()", keep::error, model::error);
        for (int what = -1; what <= 7; what++) {
            int w = what;
            both("state(" + w + ")", () -> keep.state(w), () -> model.state(w));
        }
        int thing = kindOfThing();
        int n = number();
        lookAtThing(thing, n);
        lookAtKey(thing, n, random.nextInt(8) - 1);
    }

    private void lookAtThing(int thing, int n) {
        for (int what = -1; what <= 4; what++) {
            int w = what;
            both("thing(" + thing + ", " + n + ", " + w + ")", () -> keep.thing(thing, n, w), () -> model.thing(thing, n, w));
            both("chain(" + n + ", true, " + w + ")", () -> keep.chain(n, true, w), () -> model.chain(n, true, w));
            both("chain(" + n + ", false, " + w + ")", () -> keep.chain(n, false, w), () -> model.chain(n, false, w));
        }
    }

    private void lookAtKey(int thing, int n, int key) {
        both("has(" + n + ", " + key + ")", () -> keep.has(n, key), () -> model.has(n, key));
        for (int what = -3; what <= 1; what++) {
            int w = what;
            both("value(" + thing + ", " + n + ", " + key + ", " + w + ")",
                () -> keep.value(thing, n, key, w), () -> model.value(thing, n, key, w));
        }
    }

    private void lookAtAll() {
        for (int thing = 4; thing <= 5; thing++) {
            for (int n = 0; n < 96; n++) {
                lookAtThing(thing, n);
                for (int key = -1; key < 7; key++) {
                    lookAtKey(thing, n, key);
                }
            }
        }
    }
}
