import java.util.List;

/** A state that a run can reach, the run that leads there, and what state(0) to state(6) answer then. */
record Situation(String name, Script script, int... states) {
    private static final int NODE = 4;
    private static final int LINK = 5;

    private static final Script SOME = x -> {
        Bench.nodes(3).on(x);
        x.link(0, 1, 8);
        x.link(1, 1, 9);
        x.label(0, 1, true);
        x.label(0, 5, true);
        x.property(NODE, 0, 1, 1, 4);
        x.property(LINK, 0, 1, 2, 1);
        x.type(Bench.word("ab"), 2);
        x.property(NODE, 1, 1, 3, 0);
        x.type(Bench.word("ab"), 2);
    };
    private static final Script KEPT = SOME.then(Face::done);
    private static final Script BEGUN = KEPT.then(Face::begin).then(x -> {
        x.take(NODE, 2);
        x.label(0, 2, true);
        x.done();
    });
    private static final Script MORE = x -> {
        x.node();
        x.take(LINK, 1);
        x.property(NODE, 0, 1, 1, 5);
        x.label(0, 5, false);
    };
    private static final Script MADE_AND_TAKEN = x -> {
        x.node();
        x.take(NODE, 3);
        x.link(0, 0, 1);
        x.take(LINK, 2);
    };
    private static final Script FULL = x -> {
        Bench.nodes(64).on(x);
        Bench.links(96).on(x);
        Bench.labels(0, 4).on(x);
        Bench.properties(NODE, 0, 6).on(x);
        Bench.properties(LINK, 0, 6).on(x);
        Bench.typed(24).on(x);
    };

    private static final Script LESS = x -> {
        x.take(NODE, 63);
        x.take(LINK, 95);
        x.property(NODE, 0, 6, 0, 0);
        x.label(0, 4, false);
    };

    static final List<Situation> ALL = List.of(
        new Situation("a new object", Script.NOTHING, 0, 0, 0, 0, 0, 0, 0),
        new Situation("a STATEMENT done", KEPT, 3, 2, 11, 11, 0, 0, 0),
        new Situation("in the middle of a STATEMENT", KEPT.then(MORE), 4, 1, 11, 11, 0, 0, 4),
        new Situation("in a TRANSACTION", BEGUN, 2, 2, 11, 11, 0, 1, 2),
        new Situation("in the middle of a STATEMENT in a TRANSACTION", BEGUN.then(MORE), 3, 1, 11, 11, 0, 1, 6),
        new Situation("behind what was made and taken away", KEPT.then(MADE_AND_TAKEN), 3, 2, 11, 11, 0, 0, 4),
        new Situation("behind what was made and taken away in a TRANSACTION", KEPT.then(Face::begin).then(MADE_AND_TAKEN),
            3, 2, 11, 11, 0, 1, 4),
        new Situation("behind a CHECKPOINT", KEPT.then(Face::checkpoint), 3, 2, 17, 0, 0, 0, 0),
        new Situation("right behind an ERROR", KEPT.then(MORE).thenRefused(x -> x.label(-1, 1, true)),
            4, 1, 11, 11, 0, 0, 4),
        new Situation("right behind a call refused in a TRANSACTION", BEGUN.then(MORE).thenRefused(Face::checkpoint),
            3, 1, 11, 11, 0, 1, 6),
        new Situation("with the next WRITE told", KEPT.then(MORE).then(x -> x.cut(1)), 4, 1, 11, 11, 0, 0, 4),
        new Situation("with a WRITE told in a TRANSACTION", BEGUN.then(MORE).then(x -> x.cut(7)), 3, 1, 11, 11, 0, 1, 6),
        new Situation("with a WRITE told for a CHECKPOINT", KEPT.then(x -> x.cut(6)), 3, 2, 11, 11, 0, 0, 0),
        new Situation("OFF behind done()", KEPT.then(MORE).then(x -> x.cut(3)).thenRefused(Face::done),
            0, 0, 13, 13, 1, 0, 0),
        new Situation("OFF behind commit()", BEGUN.then(MORE).then(x -> x.cut(7)).thenRefused(Face::commit),
            0, 0, 17, 17, 1, 0, 0),
        new Situation("OFF behind checkpoint()", KEPT.then(x -> x.cut(6)).thenRefused(Face::checkpoint),
            0, 0, 16, 11, 1, 0, 0),
        new Situation("recovered", KEPT.then(MORE).then(x -> x.cut(3)).thenRefused(Face::done).then(Face::recover),
            3, 2, 13, 11, 0, 0, 0),
        new Situation("full", FULL, 64, 96, 0, 0, 0, 0, 176),
        new Situation("full and kept, one of each taken away", FULL.then(Face::done).then(LESS),
            63, 95, 177, 177, 0, 0, 4),
        new Situation("full, with 248 CHANGES", FULL.then(Bench.changes(1, 72)), 64, 96, 0, 0, 0, 0, 248),
        new Situation("full, with 249 CHANGES", FULL.then(Bench.changes(1, 73)), 64, 96, 0, 0, 0, 0, 249),
        new Situation("249 CHANGES in a TRANSACTION", BEGUN.then(Bench.changes(1, 247)), 2, 2, 11, 11, 0, 1, 249),
        new Situation("room in the LOG for what is under way", logged(245).then(MORE), 4, 1, 245, 245, 0, 0, 4),
        new Situation("no room for what is under way", logged(246).then(MORE), 4, 1, 246, 246, 0, 0, 4),
        new Situation("a LOG that is full", logged(250), 3, 2, 250, 250, 0, 0, 0),
        new Situation("commit() answered -2", logged(250).then(Face::begin).then(MORE).then(Face::commit),
            4, 1, 250, 250, 0, 1, 4));

    /** So many in the LOG: 11 of KEPT, and a STATEMENT with the END that makes up the rest. */
    private static Script logged(int count) {
        return KEPT.then(Bench.changes(1, count - 12)).then(Face::done);
    }
}
