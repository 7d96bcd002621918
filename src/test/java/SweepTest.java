import java.util.ArrayList;
import java.util.HashSet;
import java.util.List;
import java.util.Set;

/**
 * Every call with arguments at and beyond each limit, in every Situation: the answer is the Model's, what is
 * asked afterwards is answered as by the Model, and behind a refused call as if it had not been made.
 */
public final class SweepTest extends Bench {
    /** Of a group, one call of each answer gets all that can be asked behind it. */
    private record Named(String name, String method, String group, Ask ask) { }

    private static final int[] NUMBERS = {LEAST, -1, 0, 1, 2, 3, 62, 63, 64, 94, 95, 96, MOST};
    private static final int[] INTS = {LEAST, -1, 0, 1, 5, 7, MOST};
    private static final int[] KINDS_OF_THING = {LEAST, -1, 0, 3, NODE, LINK, 6, MOST};
    private static final int[] WHATS = {LEAST, -3, -2, -1, 0, 1, 2, 3, 4, 5, 6, 7, 23, 24, MOST};
    private static final long[][] VALUES = {
        {LEAST, 0}, {-1, 0}, {AWAY, 0}, {AWAY, 7}, {NUMBER, Long.MIN_VALUE}, {NUMBER, 4}, {NUMBER, Long.MAX_VALUE},
        {TRUTH, Long.MIN_VALUE}, {TRUTH, -1}, {TRUTH, 0}, {TRUTH, 1}, {TRUTH, 2}, {TRUTH, 1L << 32}, {TEXT, 0}, {TEXT, 9},
        {4, 0}, {MOST, 1},
    };
    /** What a call that is refused answers, where it does not throw. */
    private static final Set<String> REFUSALS = Set.of("type false", "begin false", "rollback false", "cut false",
        "commit -1", "checkpoint -1", "label false", "undo 0");

    private final List<Named> calls = new ArrayList<>();
    private final Set<String> met = new HashSet<>();

    private SweepTest() {
        super("SweepTest");
    }

    public static void main(String[] args) {
        SweepTest test = new SweepTest();
        test.gather();
        for (Situation situation : Situation.ALL) {
            test.sweep(situation);
        }
        test.due.part("what the sweep met");
        for (int error : new int[] {2, 6, 7, 8, 9}) {
            test.due.is("ERROR " + error, test.met.contains("ERROR " + error), true);
        }
        test.due.end();
    }

    private void add(String method, String arguments, Ask ask) {
        add(method, method, arguments, ask);
    }

    private void add(String method, String group, String arguments, Ask ask) {
        calls.add(new Named(method + "(" + arguments + ")", method, group, ask));
    }

    private void gather() {
        add("node", "", Face::node);
        add("error", "", Face::error);
        add("done", "", Face::done);
        add("undo", "", Face::undo);
        add("begin", "", Face::begin);
        add("commit", "", Face::commit);
        add("rollback", "", Face::rollback);
        add("checkpoint", "", Face::checkpoint);
        add("recover", "", Face::recover);
        gatherTypes();
        gatherChanges();
        gatherProperties();
        gatherLooks();
        for (int n : new int[] {LEAST, -1, 0, 1, 2, 6, 1999, 2000, 2001, MOST}) {
            add("cut", "" + n, x -> x.cut(n));
        }
    }

    private void gatherTypes() {
        long[] words = {0, 31, 32, 126, 127, word("ab"), word("abcdefgh"), word("abcdefg") << 8 | 127, -1, Long.MIN_VALUE};
        for (int n : new int[] {LEAST, -1, 0, 1, 2, 7, 8, 9, MOST}) {
            for (long word : words) {
                add("type", word + ", " + n, x -> x.type(word, n));
            }
        }
    }

    private void gatherChanges() {
        for (int n : NUMBERS) {
            for (int label : INTS) {
                add("label", n + ", " + label + ", true", x -> x.label(n, label, true));
                add("label", n + ", " + label + ", false", x -> x.label(n, label, false));
            }
            for (int end : NUMBERS) {
                add("link", n + ", " + end + ", -1", x -> x.link(n, end, -1));
            }
            for (int thing : KINDS_OF_THING) {
                add("take", thing + ", " + n, Ask.take(thing, n));
            }
        }
    }

    private void gatherProperties() {
        for (int thing : KINDS_OF_THING) {
            for (int n : new int[] {LEAST, -1, 0, 1, 63, 64, 95, 96, MOST}) {
                for (int key : new int[] {LEAST, 1, 7}) {
                    for (long[] value : VALUES) {
                        int kind = (int) value[0];
                        add("property", "property of kind " + kind, thing + ", " + n + ", " + key + ", " + kind + ", " + value[1],
                            x -> x.property(thing, n, key, kind, value[1]));
                    }
                }
            }
        }
    }

    private void gatherLooks() {
        for (int what : WHATS) {
            add("state", "" + what, x -> x.state(what));
            for (int n : NUMBERS) {
                add("chain", n + ", true, " + what, x -> x.chain(n, true, what));
                add("chain", n + ", false, " + what, x -> x.chain(n, false, what));
                for (int thing : KINDS_OF_THING) {
                    add("thing", thing + ", " + n + ", " + what, x -> x.thing(thing, n, what));
                    add("value", thing + ", " + n + ", 1, " + what, x -> x.value(thing, n, 1, what));
                    add("value", thing + ", " + n + ", 9, " + what, x -> x.value(thing, n, 9, what));
                }
            }
        }
        for (int n : NUMBERS) {
            for (int label : INTS) {
                add("has", n + ", " + label, x -> x.has(n, label));
            }
        }
    }

    private void sweep(Situation situation) {
        due.part(situation.name());
        states("the run that leads there", situation.script(), situation.states());
        Looks looks = new Looks(situation.script());
        due.is("all that is asked there", looks.told(Script.NOTHING), looks.toldByModel(Script.NOTHING));
        Set<String> kinds = new HashSet<>();
        for (Named call : calls) {
            Real real = at(situation.script());
            int error = real.error();
            String got = Due.answer(call.ask(), real);
            due.is(call.name(), got, Due.answer(call.ask(), looks.model()));
            if (got.equals(Due.ERROR)) {
                error = real.error();
                met.add("ERROR " + error);
            }
            due.is("error() behind " + call.name(), real.error(), error);
            if (kinds.add(call.group() + got + error)) {
                behind(looks, call, got, error);
            }
        }
    }

    private void behind(Looks looks, Named call, String got, int error) {
        Script made = Script.NOTHING.thenRefused(call.ask());
        String told = looks.told(made);
        due.is("all that is asked behind " + call.name(), told, looks.toldByModel(made));
        boolean emptiesTape = call.method().equals("property") && (error == 6 || error == 9);
        boolean refused = got.equals(Due.ERROR) && !call.method().equals("done") && !emptiesTape
            || REFUSALS.contains(call.method() + " " + got) || looks.wasOff() && got.equals(Due.OFF);
        if (refused || isLook(call.method())) {
            due.is("all that is asked behind " + call.name() + ", refused", told, looks.told(Script.NOTHING));
        }
    }

    private static boolean isLook(String method) {
        return Set.of("error", "thing", "chain", "has", "value", "state").contains(method);
    }

    /** What all Witnesses tell of objects in one Situation, with something more done to them. */
    private record Looks(Script script) {
        Model model() {
            Model model = new Model();
            script.on(model);
            return model;
        }

        boolean wasOff() {
            return at(script).state(4) == 1;
        }

        String told(Script more) {
            StringBuilder told = new StringBuilder();
            for (Witness witness : Witness.ALL) {
                told.append(witness.name()).append(": ").append(witness.ask().of(at(script.then(more)))).append('\n');
            }
            return told.toString();
        }

        String toldByModel(Script more) {
            StringBuilder told = new StringBuilder();
            for (Witness witness : Witness.ALL) {
                Model model = model();
                more.on(model);
                told.append(witness.name()).append(": ").append(witness.ask().of(model)).append('\n');
            }
            return told.toString();
        }
    }
}
