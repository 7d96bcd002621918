import java.util.List;

/**
 * What is asked to find out in which state an object is, also where that can't be seen at once: the tape,
 * the numbers that are not free, the WRITE that was told, and what undo(), rollback() and recover() go back to.
 */
record Witness(String name, Ask ask) {
    static final List<Witness> ALL = List.of(
        new Witness("what is seen", Witness::seen),
        new Witness("new things", Witness::newThings),
        new Witness("the tape", Witness::tape),
        new Witness("WRITES till the power fails", Witness::writes),
        new Witness("undo() of more", more(Face::undo)),
        new Witness("done() of more, and recover()", more(x -> Due.answer(x::done) + " " + x.recover())),
        new Witness("rollback() of more", more(x -> x.rollback() + " " + x.undo())),
        new Witness("undo()", behind(Face::undo)),
        new Witness("done()", behind(Face::done)),
        new Witness("begin()", behind(Face::begin)),
        new Witness("commit()", behind(Face::commit)),
        new Witness("rollback()", behind(Face::rollback)),
        new Witness("checkpoint()", behind(Face::checkpoint)),
        new Witness("recover()", behind(Face::recover)));

    private static final int[] NODES = {0, 1, 2, 3, 63};
    private static final int[] LINKS = {0, 1, 2, 95};
    private static final int[] LABELS = {1, 2, 5};

    static String states(Face x) {
        StringBuilder told = new StringBuilder("states");
        for (int what = 0; what <= 6; what++) {
            told.append(' ').append(x.state(what));
        }
        return told.toString();
    }

    /** All but error(), which an ERROR changes. */
    static String seen(Face x) {
        StringBuilder told = new StringBuilder(states(x));
        for (int n : NODES) {
            thing(told, x, 4, n);
            for (int label : LABELS) {
                told.append(' ').append(x.has(n, label));
            }
            for (int k = 0; k <= 1; k++) {
                told.append(' ').append(x.chain(n, true, k)).append(' ').append(x.chain(n, false, k));
            }
        }
        for (int n : LINKS) {
            thing(told, x, 5, n);
        }
        return told.toString();
    }

    private static void thing(StringBuilder told, Face x, int thing, int n) {
        told.append(thing == 4 ? ", NODE " : ", LINK ").append(n).append(':');
        for (int what = 0; what <= 3; what++) {
            told.append(' ').append(x.thing(thing, n, what));
        }
        for (int what = -2; what <= 0; what++) {
            int w = what;
            told.append(' ').append(Due.answer(() -> x.value(thing, n, 1, w)));
        }
        told.append(' ').append(Due.answer(() -> x.value(thing, n, 7, -1)));
    }

    private static Ask behind(Ask call) {
        return x -> Due.answer(call, x) + " " + seen(x) + ", new things: " + newThings(x);
    }

    /** Some CHANGES ahead, of which one at least is taken in a full graph too. */
    private static Ask more(Ask call) {
        return x -> {
            Due.answer(x::node);
            Due.answer(() -> x.label(1, 98, true));
            Due.answer(Ask.take(5, 0), x);
            return behind(call).of(x);
        };
    }

    private static String newThings(Face x) {
        StringBuilder told = new StringBuilder();
        for (int i = 0; i < 3; i++) {
            told.append(Due.answer(x::node)).append(' ');
            told.append(Due.answer(() -> x.link(0, 0, 3))).append(' ');
        }
        return told + states(x);
    }

    private static String tape(Face x) {
        x.recover();
        Due.answer(x::node);
        Due.answer(() -> x.property(4, 0, 1, 3, 0));
        StringBuilder told = new StringBuilder();
        for (int what = -2; what < 24; what++) {
            int w = what;
            told.append(' ').append(Due.answer(() -> x.value(4, 0, 1, w)));
        }
        return told.toString();
    }

    private static String writes(Face x) {
        StringBuilder told = new StringBuilder();
        x.rollback();
        x.undo();
        for (int i = 0; i < 3; i++) {
            told.append(Due.answer(x::checkpoint)).append(' ');
        }
        return told + states(x);
    }
}
