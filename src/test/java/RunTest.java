import com.sun.management.ThreadMXBean;
import java.lang.management.ManagementFactory;
import java.util.ArrayList;
import java.util.List;
import java.util.Random;

/** What holds for a whole run of calls: how long it may be, that no other run changes it, what it throws, its room. */
public final class RunTest extends Bench {
    /** 509 calls: NODE 0 is made and kept, then its LABEL 99 put and taken away in 169 STATEMENTS. */
    private static final Script LONG = nodes(1).then(Face::done).then(x -> {
        for (int i = 0; i < 169; i++) {
            x.label(0, 99, i % 2 == 0);
            x.done();
            x.checkpoint();
        }
    });
    private static final int[] ODD_INTS = {LEAST, -2, -1, 0, 1, 2, 3, 4, 5, 63, 64, 95, 96, 2000, 2001, MOST};
    /** An object has 16 bytes at least, so that this is far from the 600,000 objects of the room. */
    private static final long MOST_BYTES = 200_000;

    private RunTest() {
        super("RunTest");
    }

    public static void main(String[] args) {
        RunTest test = new RunTest();
        test.lastCalls();
        test.objectsStandAlone();
        test.runsSideBySide();
        test.nothingElseIsThrown();
        test.room();
        test.due.end();
    }

    private void lastCalls() {
        due.part("An object is used for at most 512 calls");
        due.is("calls left", at(LONG).callsLeft(), 3);
        answers("678 0 true", "WRITES, CHANGES, LABEL 99", LONG, x -> x.state(2) + " " + x.state(6) + " " + x.has(0, 99));
        answers("true 1 true", "a CHANGE, done", LONG, x -> x.label(0, 98, true) + " " + x.done() + " " + x.has(0, 98));
        answers("true 1 false", "a CHANGE, undone", LONG, x -> x.label(0, 98, true) + " " + x.undo() + " " + x.has(0, 98));
        answers("0 0 1", "a LINK", LONG, x -> x.link(0, 0, 1) + " " + x.chain(0, true, 0) + " " + x.thing(LINK, 0, 3));
        answers("true 1 0", "a TRANSACTION", LONG, x -> x.begin() + " " + x.node() + " " + (x.commit() - 2));
        answers("true 1 " + Due.OFF, "the power fails", LONG, x -> x.cut(1) + " " + x.node() + " " + Due.answer(x::done));
        answers("1 0 1", "an ERROR", LONG,
            x -> x.state(0) + " " + x.recover() + " " + (Due.answer(() -> x.label(1, 1, true)).equals(Due.ERROR) ? 1 : 0));
    }

    private void objectsStandAlone() {
        due.part("an object is changed by its own calls alone");
        for (Witness witness : Witness.ALL) {
            List<Real> made = new ArrayList<>();
            for (Situation situation : Situation.ALL) {
                made.add(at(situation.script()));
            }
            for (int i = 0; i < made.size(); i++) {
                Model model = new Model();
                Situation.ALL.get(i).script().on(model);
                due.is(witness.name() + ", " + Situation.ALL.get(i).name(),
                    witness.ask().of(made.get(i)), witness.ask().of(model));
            }
        }
    }

    /** Three objects are led through one run, each ten calls behind the other. */
    private void runsSideBySide() {
        due.part("the same calls always give the same answers");
        for (int seed = 0; seed < 20; seed++) {
            List<Ask> run = run(new Random(seed), 480);
            List<Real> objects = List.of(new Real(), new Real(), new Real());
            List<StringBuilder> told = List.of(new StringBuilder(), new StringBuilder(), new StringBuilder());
            for (int i = 0; i < run.size() + 20; i++) {
                for (int one = 0; one < 3; one++) {
                    int at = i - 10 * one;
                    if (at >= 0 && at < run.size()) {
                        told.get(one).append(Due.answer(run.get(at), objects.get(one))).append('\n');
                    }
                }
            }
            Model model = new Model();
            StringBuilder wanted = new StringBuilder();
            run.forEach(ask -> wanted.append(Due.answer(ask, model)).append('\n'));
            for (int one = 0; one < 3; one++) {
                due.is("run " + seed + ", object " + one, told.get(one), wanted);
            }
        }
    }

    private static List<Ask> run(Random random, int length) {
        List<Ask> run = new ArrayList<>();
        for (int i = 0; i < length; i++) {
            int a = random.nextInt(6);
            int b = random.nextInt(6);
            boolean on = random.nextBoolean();
            run.add(call(random.nextInt(26), a, b, on));
        }
        return run;
    }

    private static Ask call(int chosen, int a, int b, boolean on) {
        return switch (chosen) {
            case 0 -> x -> x.type(word("abc"), 3);
            case 1 -> x -> x.label(a, b, on);
            case 2 -> x -> x.property(on ? NODE : LINK, a, b, TEXT, 0);
            case 3 -> x -> x.property(on ? NODE : LINK, a, b, NUMBER, a);
            case 4 -> x -> x.property(on ? NODE : LINK, a, b, AWAY, 0);
            case 5 -> x -> x.link(a, b, 7);
            case 6 -> Ask.take(on ? NODE : LINK, a);
            case 7 -> Face::done;
            case 8 -> Face::undo;
            case 9 -> Face::begin;
            case 10 -> Face::commit;
            case 11 -> Face::rollback;
            case 12 -> Face::checkpoint;
            case 13 -> x -> x.cut(a * b);
            case 14 -> Face::recover;
            case 15 -> x -> x.thing(on ? NODE : LINK, a, b);
            case 16 -> x -> x.chain(a, on, b);
            case 17 -> x -> x.has(a, b);
            case 18 -> x -> x.value(on ? NODE : LINK, a, b, -2);
            case 19 -> x -> x.state(a);
            case 20 -> Face::error;
            default -> Face::node;
        };
    }

    /** Also behind the 512th call, where the answers are free. */
    private void nothingElseIsThrown() {
        due.part("A call throws what the document says, and nothing else");
        for (int seed = 0; seed < 40; seed++) {
            Random random = new Random(seed);
            GraphKeep keep = new GraphKeep();
            for (int i = 0; i < 3000; i++) {
                oddCall(keep, random);
            }
        }
    }

    private static int oddInt(Random random) {
        return random.nextInt(8) == 0 ? random.nextInt() : ODD_INTS[random.nextInt(ODD_INTS.length)];
    }

    private void oddCall(GraphKeep x, Random random) {
        int a = oddInt(random);
        int b = oddInt(random);
        int c = oddInt(random);
        int d = oddInt(random);
        long v = random.nextBoolean() ? random.nextLong() : a;
        boolean on = random.nextBoolean();
        switch (random.nextInt(20)) {
            case 0 -> throwsOnly("type", () -> x.type(v, a));
            case 1 -> throwsOnly("node", x::node, Due.ERROR, Due.OFF);
            case 2 -> throwsOnly("label", () -> x.label(a, b, on), Due.ERROR, Due.OFF);
            case 3 -> throwsOnly("property", () -> x.property(a, b, c, d, v), Due.ERROR, Due.OFF);
            case 4 -> throwsOnly("link", () -> x.link(a, b, c), Due.ERROR, Due.OFF);
            case 5 -> throwsOnly("take", () -> Due.answer(() -> x.take(a, b)), Due.ERROR, Due.OFF);
            case 6 -> throwsOnly("error", x::error);
            case 7 -> throwsOnly("done", x::done, Due.ERROR, Due.OFF);
            case 8 -> throwsOnly("undo", x::undo);
            case 9 -> throwsOnly("begin", x::begin);
            case 10 -> throwsOnly("commit", x::commit, Due.OFF);
            case 11 -> throwsOnly("rollback", x::rollback);
            case 12 -> throwsOnly("checkpoint", x::checkpoint, Due.OFF);
            case 13 -> throwsOnly("cut", () -> x.cut(a));
            case 14 -> throwsOnly("recover", x::recover);
            case 15 -> throwsOnly("thing", () -> x.thing(a, b, c));
            case 16 -> throwsOnly("chain", () -> x.chain(a, on, b));
            case 17 -> throwsOnly("has", () -> x.has(a, b));
            case 18 -> throwsOnly("value", () -> x.value(a, b, c, d), Due.NO_SUCH);
            default -> throwsOnly("state", () -> x.state(a));
        }
    }

    private void throwsOnly(String method, Due.Call call, String... allowed) {
        String got = Due.answer(call);
        boolean threw = got.startsWith("throws.");
        due.is(method + " threw " + got, !threw || List.of(allowed).contains(got), true);
    }

    /** The dearest call puts a VALUE to a NODE that has 6, so that a run can't make much more than this one. */
    private void room() {
        due.part("All calls of one run live in one room");
        ThreadMXBean threads = (ThreadMXBean) ManagementFactory.getThreadMXBean();
        long thread = Thread.currentThread().getId();
        Real first = new Real();
        dearest(first);
        due.is("calls left", first.callsLeft(), 0);
        long before = threads.getThreadAllocatedBytes(thread);
        dearest(new Real());
        long bytes = threads.getThreadAllocatedBytes(thread) - before;
        due.is(bytes + " bytes are at most " + MOST_BYTES, bytes <= MOST_BYTES, true);
    }

    private static void dearest(Real x) {
        x.node();
        while (x.callsLeft() > 0) {
            if (x.callsLeft() % 240 == 2) {
                x.done();
                x.checkpoint();
            } else {
                x.property(NODE, 0, x.callsLeft() % 6, NUMBER, x.callsLeft());
            }
        }
    }
}
