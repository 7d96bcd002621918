/** Each sentence of the promises 1 to 21 that tells what is answered at an edge or by a call that is refused. */
public final class BoundaryTest extends Bench {
    private static final int[] ODD = {LEAST, LEAST + 1, -100, MOST - 1, MOST};

    private static final Script SMALL = nodes(3).then(x -> {
        x.link(0, 1, 8);
        x.link(1, 1, 9);
        x.label(0, 1, true);
        x.property(NODE, 0, 1, NUMBER, 4);
        x.type(word("tape"), 4);
    });
    private static final int SMALL_LOG = 8;
    private static final Script KEPT = SMALL.then(Face::done);
    private static final Script OFF_BY_DONE = KEPT.then(nodes(2)).then(x -> x.cut(2)).thenRefused(Face::done);
    private static final Script OFF_BY_COMMIT = KEPT.then(Face::begin).then(nodes(2)).then(Face::done).then(nodes(1))
        .then(x -> x.cut(4)).thenRefused(Face::commit);
    private static final Script OFF_BY_CHECKPOINT = KEPT.then(x -> x.cut(3)).thenRefused(Face::checkpoint);
    private static final Script[] OFF = {OFF_BY_DONE, OFF_BY_COMMIT, OFF_BY_CHECKPOINT};
    /** A STATEMENT under way, a TRANSACTION, one with a STATEMENT under way, and a WRITE told. */
    private static final Script[] ON = {
        Script.NOTHING,
        KEPT,
        KEPT.then(nodes(1)).then(x -> x.take(LINK, 0)),
        KEPT.then(Face::begin),
        KEPT.then(Face::begin).then(nodes(1)).then(Face::done),
        KEPT.then(Face::begin).then(nodes(1)).then(Face::done).then(x -> x.take(LINK, 0)).then(labels(1, 2)),
        KEPT.thenRefused(x -> x.label(9, 9, true)),
        KEPT.then(nodes(1)).then(x -> x.cut(3)),
    };

    private BoundaryTest() {
        super("BoundaryTest");
    }

    public static void main(String[] args) {
        BoundaryTest test = new BoundaryTest();
        test.newObject();
        test.typeHighestFirst();
        test.typeAnotherN();
        test.typeBytes();
        test.typeWhileOff();
        test.nodeMade();
        test.labelPutOrTaken();
        test.propertyPutOrTaken();
        test.tapeIsEmptyThen();
        test.tapeStays();
        test.linkMade();
        test.takeAway();
        test.offRefusesChanges();
        test.errorIsTheLatest();
        test.errorIsLeft();
        test.doneTells();
        test.doneKeeps();
        test.doneWhileOff();
        test.undoTells();
        test.undoWhileOff();
        test.beginTrue();
        test.beginFalse();
        test.commitTells();
        test.commitNone();
        test.commitNoRoom();
        test.commitOff();
        test.rollbackTrue();
        test.rollbackFalse();
        test.checkpointNone();
        test.checkpointOff();
        test.cutNumbers();
        test.cutZero();
        test.cutIsTheLatest();
        test.cut2000();
        test.cutCountsFromNowOn();
        test.cutRefused();
        test.recoverIfNotOff();
        test.recoverTells();
        test.recoverEndsOff();
        test.thingWhat();
        test.chainK();
        test.hasLabel();
        test.valueWhat();
        test.valueNone();
        test.stateWhat();
        test.stateCounts();
        test.due.end();
    }

    private void newObject() {
        due.part("promise 1: an object in the state that the terms give");
        states("new", Script.NOTHING, 0, 0, 0, 0, 0, 0, 0);
        answers(0, "error()", Script.NOTHING, Face::error);
        answers(0, "node()", Script.NOTHING, Face::node);
        answers(0, "done()", Script.NOTHING, Face::done);
        answers(0, "undo()", Script.NOTHING, Face::undo);
        answers(true, "begin()", Script.NOTHING, Face::begin);
        leavesAll(-1, "commit()", Script.NOTHING, Face::commit);
        leavesAll(false, "rollback()", Script.NOTHING, Face::rollback);
        answers(1, "checkpoint()", Script.NOTHING, Face::checkpoint);
        leavesAll(0, "recover()", Script.NOTHING, Face::recover);
        leavesAll(-1, "thing(4, 0, 0)", Script.NOTHING, x -> x.thing(NODE, 0, 0));
        leavesAll(-1, "thing(5, 0, 0)", Script.NOTHING, x -> x.thing(LINK, 0, 0));
        leavesAll(-1, "chain(0, true, 0)", Script.NOTHING, x -> x.chain(0, true, 0));
        leavesAll(false, "has(0, 0)", Script.NOTHING, x -> x.has(0, 0));
        leavesAll(Due.NO_SUCH, "value(4, 0, 0, -1)", Script.NOTHING, x -> x.value(NODE, 0, 0, -1));
        answers(0, "the tape", nodes(1).then(x -> x.property(NODE, 0, 1, TEXT, 0)), x -> x.value(NODE, 0, 1, -2));
        answers(4, "no WRITE is told", nodes(4), Face::done);
        Real used = at(SMALL.then(Face::begin).then(x -> x.cut(1)));
        due.is("NODES of another one", new Real().state(0), 0);
        due.is("TRANSACTION of another one", new Real().state(5), 0);
        due.is("TRANSACTION of the one that was used", used.state(5), 1);
    }

    private void typeHighestFirst() {
        due.part("promise 2: The n (1 .. 8) lowest bytes of word, the highest first, go to the tape");
        String text = "abcdefgh";
        for (int n = 1; n <= 8; n++) {
            int count = n;
            answers(true, "type(.., " + n + ")", nodes(1), x -> x.type(word(text), count));
            Script put = nodes(1).then(x -> x.type(word(text), count)).then(x -> x.property(NODE, 0, 1, TEXT, 0));
            answers(n, "how many", put, x -> x.value(NODE, 0, 1, -2));
            for (int i = 0; i < n; i++) {
                int at = i;
                answers((int) text.charAt(8 - n + i), "character " + i, put, x -> x.value(NODE, 0, 1, at));
            }
        }
        Script twice = nodes(1).then(x -> x.type(word("ab"), 2)).then(x -> x.type(word("cd"), 2))
            .then(x -> x.property(NODE, 0, 1, TEXT, 0));
        answers((int) 'b', "character 1 of two", twice, x -> x.value(NODE, 0, 1, 1));
        answers((int) 'c', "character 2 of two", twice, x -> x.value(NODE, 0, 1, 2));
    }

    private void typeAnotherN() {
        due.part("promise 2: false, changing nothing, for another n");
        for (int n : new int[] {LEAST, -8, -1, 0, 9, 10, 16, 256, 264, MOST}) {
            leavesAll(false, "type(.., " + n + ")", typed(3), x -> x.type(word("abcdefgh"), n));
            leavesAll(false, "type(.., " + n + ") on an empty tape", Script.NOTHING, x -> x.type(word("abcdefgh"), n));
        }
    }

    private void typeBytes() {
        due.part("promise 2: false, changing nothing, for a byte that is not 32 .. 126, or more than 24");
        for (long word : new long[] {0, 31, 127, 128, 255, -1, Long.MIN_VALUE, Long.MAX_VALUE}) {
            leavesAll(false, "type(" + word + ", 1)", typed(3), x -> x.type(word, 1));
            leavesAll(false, "type(" + word + ", 8)", typed(3), x -> x.type(word, 8));
        }
        answers(true, "32", typed(3), x -> x.type(32, 1));
        answers(true, "126", typed(3), x -> x.type(126, 1));
        answers(true, "32 behind a byte that is none, which is above", typed(3), x -> x.type(127 << 8 | 32, 1));
        leavesAll(false, "32 behind 127", typed(3), x -> x.type(127 << 8 | 32, 2));
        leavesAll(false, "31 behind 126", typed(3), x -> x.type(126 << 8 | 31, 2));
        leavesAll(false, "8 behind 17", typed(17), x -> x.type(word("abcdefgh"), 8));
        answers(true, "8 behind 16", typed(16), x -> x.type(word("abcdefgh"), 8));
        answers(true, "7 behind 17", typed(17), x -> x.type(word("abcdefgh"), 7));
    }

    private void typeWhileOff() {
        due.part("promise 2, while OFF");
        for (Script off : OFF) {
            answers(true, "type('b', 1)", off, x -> x.type('b', 1));
            leavesAll(false, "type(31, 1)", off, x -> x.type(31, 1));
            leavesAll(false, "type(.., 0)", off, x -> x.type('b', 0));
            Script put = off.then(x -> x.type('b', 1)).then(Face::recover).then(x -> x.property(NODE, 0, 1, TEXT, 0));
            answers(5, "how many", put, x -> x.value(NODE, 0, 1, -2));
            answers((int) 'b', "the last", put, x -> x.value(NODE, 0, 1, 4));
        }
    }

    private void nodeMade() {
        due.part("promise 3: A NODE is made: its number");
        for (int count : new int[] {0, 1, 62, 63}) {
            answers(count, "node() behind " + count, nodes(count), Face::node);
            answers(count, "behind done()", nodes(count).then(Face::done), Face::node);
            answers(count, "in a TRANSACTION", nodes(count).then(Face::done).then(Face::begin), Face::node);
            states("node()", nodes(count).then(nodes(1)), count + 1, 0, 0, 0, 0, 0, count + 1);
        }
        answers(0, "PROPERTIES", nodes(1), x -> x.thing(NODE, 0, 0));
        answers(0, "LABELS", nodes(1), x -> x.thing(NODE, 0, 1));
        answers(0, "LINKS that start there", nodes(1), x -> x.thing(NODE, 0, 2));
        answers(0, "LINKS that end there", nodes(1), x -> x.thing(NODE, 0, 3));
        error(6, "node() behind 64", nodes(64), Face::node);
        error(6, "node() behind 64 that were kept", nodes(64).then(Face::done), Face::node);
    }

    private void labelPutOrTaken() {
        due.part("promise 4: A LABEL is put, or taken away: whether that is a CHANGE");
        for (Script on : ON) {
            if (on != Script.NOTHING) {
                answers(true, "put", on, x -> x.label(0, 7, true));
                answers(true, "taken away", on, x -> x.label(0, 1, false));
                leavesAll(false, "put that is there", on, x -> x.label(0, 1, true));
                leavesAll(false, "taken away that is not there", on, x -> x.label(0, 7, false));
                answers(false, "put and taken away", on.then(x -> x.label(0, 7, true)).then(x -> x.label(0, 7, false)),
                    x -> x.has(0, 7));
            }
            error(8, "put at none", on, x -> x.label(4, 1, true));
            error(8, "taken away at none", on, x -> x.label(4, 1, false));
        }
        error(6, "the fifth", KEPT.then(labels(0, 4)), x -> x.label(0, 5, true));
        answers(true, "one of four taken away", KEPT.then(labels(0, 4)), x -> x.label(0, 4, false));
    }

    private void propertyPutOrTaken() {
        due.part("promise 5: A PROPERTY of a thing is put or taken away: whether that is a CHANGE");
        for (Script on : ON) {
            if (on != Script.NOTHING) {
                answers(true, "a number put", on, x -> x.property(NODE, 0, 7, NUMBER, 4));
                answers(true, "a truth put", on, x -> x.property(LINK, 1, 7, TRUTH, 0));
                answers(true, "a text put", on, x -> x.property(LINK, 1, 7, TEXT, 0));
                answers(true, "taken away", on, x -> x.property(NODE, 0, 1, AWAY, 0));
                leavesAll(false, "the same", on, x -> x.property(NODE, 0, 1, NUMBER, 4));
                leavesAll(false, "taken away that is not there", on, x -> x.property(NODE, 0, 7, AWAY, 0));
                error(2, "kind 4", on, x -> x.property(NODE, 0, 1, 4, 4));
                error(2, "kind -1", on, x -> x.property(LINK, 1, 1, -1, 4));
                error(2, "truth 2", on, x -> x.property(NODE, 0, 1, TRUTH, 2));
                error(2, "truth -1", on, x -> x.property(LINK, 1, 1, TRUTH, -1));
            }
            error(8, "of no NODE", on, x -> x.property(NODE, 4, 1, NUMBER, 4));
            error(8, "of no LINK", on, x -> x.property(LINK, 2, 1, TEXT, 4));
            error(8, "taken away of no thing", on, x -> x.property(6, 0, 1, AWAY, 4));
        }
        for (long v : new long[] {Long.MIN_VALUE, -1, 2, Long.MAX_VALUE}) {
            answers(true, "taken away with " + v, KEPT, x -> x.property(NODE, 0, 1, AWAY, v));
            answers(true, "the tape with " + v, KEPT, x -> x.property(NODE, 0, 1, TEXT, v));
        }
    }

    private void tapeIsEmptyThen() {
        due.part("promise 5: the tape (which is empty then, if there is no ERROR 8 or 2)");
        Ask length = x -> x.value(NODE, 1, 1, -2);
        Script put = x -> x.property(NODE, 1, 1, TEXT, 0);
        answers(4, "the tape is as it was", KEPT.then(put), length);
        answers(0, "behind a CHANGE", KEPT.then(x -> x.property(NODE, 0, 2, TEXT, 0)).then(put), length);
        Script same = KEPT.then(x -> x.property(NODE, 0, 2, TEXT, 0)).then(x -> x.type(word("tape"), 4));
        answers(false, "no CHANGE", same, x -> x.property(NODE, 0, 2, TEXT, 0));
        answers(0, "behind what is none", same.then(x -> x.property(NODE, 0, 2, TEXT, 0)).then(put), length);
        Script six = KEPT.then(properties(NODE, 0, 6));
        answers(Due.ERROR, "ERROR 6", six, x -> x.property(NODE, 0, 7, TEXT, 0));
        answers(0, "behind ERROR 6", six.thenRefused(x -> x.property(NODE, 0, 7, TEXT, 0)).then(put), length);
        Script at249 = KEPT.then(Face::begin).then(changes(0, 249));
        answers(Due.ERROR, "ERROR 9", at249, x -> x.property(NODE, 0, 7, TEXT, 0));
        answers(0, "behind ERROR 9", at249.thenRefused(x -> x.property(NODE, 0, 7, TEXT, 0)).then(Face::undo).then(put),
            length);
        answers(0, "behind ERROR 9 for a LINK",
            at249.thenRefused(x -> x.property(LINK, 0, 1, TEXT, 0)).then(Face::undo).then(put), length);
        Script full = nodes(2).then(typed(24)).then(x -> x.property(NODE, 0, 1, TEXT, 0));
        answers(true, "there is room for 24 again", full.then(typed(23)), x -> x.type('z', 1));
        leavesAll(false, "and not for 25", full.then(typed(24)), x -> x.type('z', 1));
    }

    private void tapeStays() {
        due.part("promise 5: the tape is empty if there is no ERROR 8 or 2, and stays with one");
        Ask length = x -> x.value(NODE, 1, 1, -2);
        Script put = x -> x.property(NODE, 1, 1, TEXT, 0);
        Ask[] leaving = {
            x -> x.property(NODE, 9, 1, TEXT, 0), x -> x.property(LINK, 9, 1, TEXT, 0), x -> x.property(3, 0, 1, TEXT, 0),
            x -> x.property(NODE, 0, 1, 4, 0), x -> x.property(NODE, 0, 1, -3, 0), x -> x.property(NODE, 0, 1, TRUTH, 3),
            x -> x.property(NODE, 0, 1, AWAY, 0), x -> x.property(NODE, 0, 1, NUMBER, 3), x -> x.property(NODE, 0, 1, TRUTH, 1),
            x -> x.property(NODE, 0, 7, AWAY, 0), x -> x.property(NODE, 0, 1, NUMBER, 4), Face::node, Face::done, Face::undo,
            Face::checkpoint, Face::recover, Face::begin,
        };
        for (int i = 0; i < leaving.length; i++) {
            answers(4, "behind call " + i, KEPT.thenRefused(leaving[i]).then(put), length);
        }
        Script six = KEPT.then(properties(NODE, 0, 6));
        answers(4, "behind ERROR 6 of a number", six.thenRefused(x -> x.property(NODE, 0, 7, NUMBER, 0)).then(put), length);
        for (Script off : OFF) {
            Script refused = off.thenRefused(x -> x.property(NODE, 1, 1, TEXT, 0)).then(Face::recover);
            answers(4, "refused while OFF", refused.then(put), length);
        }
    }

    private void linkMade() {
        due.part("promise 6: A LINK is made: its number");
        Ask link = x -> x.link(2, 0, 6);
        answers(2, "link()", KEPT, link);
        answers(2, "in a STATEMENT", SMALL, link);
        answers(2, "in a TRANSACTION", KEPT.then(Face::begin), link);
        Script made = KEPT.then(x -> x.link(2, 0, 6));
        states("link()", made, 3, 3, SMALL_LOG, SMALL_LOG, 0, 0, 1);
        answers(2, "start", made, x -> x.thing(LINK, 2, 1));
        answers(0, "end", made, x -> x.thing(LINK, 2, 2));
        answers(6, "TYPE", made, x -> x.thing(LINK, 2, 3));
        answers(0, "PROPERTIES", made, x -> x.thing(LINK, 2, 0));
        for (int n : new int[] {LEAST, -1, 3, 63, 64, 95, 96, MOST}) {
            error(8, "from " + n, KEPT, x -> x.link(n, 0, 6));
            error(8, "to " + n, KEPT, x -> x.link(0, n, 6));
            error(8, "from and to " + n, KEPT, x -> x.link(n, n, 6));
        }
        error(6, "the 97th", nodes(3).then(links(96)).then(Face::done), link);
    }

    private void takeAway() {
        due.part("promise 7: A thing is taken away");
        answers("void", "a NODE", KEPT, Ask.take(NODE, 2));
        states("take(4, 2)", KEPT.then(x -> x.take(NODE, 2)), 2, 2, SMALL_LOG, SMALL_LOG, 0, 0, 1);
        answers("void", "a LINK", KEPT, Ask.take(LINK, 0));
        states("take(5, 0)", KEPT.then(x -> x.take(LINK, 0)), 3, 1, SMALL_LOG, SMALL_LOG, 0, 0, 1);
        answers(0, "LINKS that start at 0", KEPT.then(x -> x.take(LINK, 0)), x -> x.thing(NODE, 0, 2));
        answers(1, "LINKS that end at 1", KEPT.then(x -> x.take(LINK, 0)), x -> x.thing(NODE, 1, 3));
        answers("void", "what was made in this STATEMENT", KEPT.then(nodes(1)), Ask.take(NODE, 3));
        error(8, "again", KEPT.then(x -> x.take(NODE, 2)), Ask.take(NODE, 2));
        error(8, "a LINK again", KEPT.then(x -> x.take(LINK, 0)), Ask.take(LINK, 0));
        error(8, "again in the next STATEMENT", KEPT.then(x -> x.take(NODE, 2)).then(Face::done), Ask.take(NODE, 2));
        error(7, "a NODE that has LINKS", KEPT, Ask.take(NODE, 1));
        answers("void", "again behind undo()", KEPT.then(x -> x.take(NODE, 2)).then(Face::undo), Ask.take(NODE, 2));
    }

    private void offRefusesChanges() {
        due.part("promises 3 to 7: IllegalStateException: the house is OFF");
        Script error = KEPT.thenRefused(x -> x.label(9, 9, true)).then(x -> x.cut(1)).thenRefused(Face::checkpoint);
        for (Script off : new Script[] {OFF_BY_DONE, OFF_BY_COMMIT, OFF_BY_CHECKPOINT, error}) {
            leavesAll(Due.OFF, "node()", off, Face::node);
            leavesAll(Due.OFF, "label(0, 1, true)", off, x -> x.label(0, 1, true));
            leavesAll(Due.OFF, "label(-1, 1, false)", off, x -> x.label(-1, 1, false));
            leavesAll(Due.OFF, "property(4, 0, 1, 1, 4)", off, x -> x.property(NODE, 0, 1, NUMBER, 4));
            leavesAll(Due.OFF, "property(4, 0, 1, 3, 4)", off, x -> x.property(NODE, 0, 1, TEXT, 4));
            leavesAll(Due.OFF, "property(9, 9, 1, 9, 4)", off, x -> x.property(9, 9, 1, 9, 4));
            leavesAll(Due.OFF, "link(0, 1, 2)", off, x -> x.link(0, 1, 2));
            leavesAll(Due.OFF, "link(-1, 64, 2)", off, x -> x.link(-1, 64, 2));
            leavesAll(Due.OFF, "take(4, 2)", off, Ask.take(NODE, 2));
            leavesAll(Due.OFF, "take(9, 9)", off, Ask.take(9, 9));
            answers(3, "node() behind recover()", off.then(Face::recover), Face::node);
        }
    }

    private void errorIsTheLatest() {
        due.part("promise 8: The latest ERROR; 0 if there was none");
        Script all = nodes(64).then(links(1)).then(labels(0, 4)).then(changes(1, 179));
        answers(0, "none", all, Face::error);
        Ask[] asks = {x -> x.property(NODE, 0, 1, 4, 0), Face::node, Ask.take(NODE, 0), x -> x.label(-1, 1, true),
            x -> x.property(NODE, 0, 1, NUMBER, 1)};
        int[] errors = {2, 6, 7, 8, 9};
        Script before = all.then(x -> x.label(1, 5, true));
        for (int i = 0; i < asks.length; i++) {
            answers(errors[i], "error()", before.thenRefused(asks[i]), Face::error);
            answers(errors[i], "error() again", before.thenRefused(asks[i]).then(Face::error), Face::error);
            for (int j = 0; j < asks.length; j++) {
                answers(errors[j], "error() of two", before.thenRefused(asks[i]).thenRefused(asks[j]), Face::error);
            }
        }
    }

    private void errorIsLeft() {
        due.part("promise 8: calls without one leave it");
        Ask[] asks = {
            Face::node, x -> x.label(0, 7, true), x -> x.label(0, 1, true), x -> x.property(NODE, 0, 1, NUMBER, 9),
            x -> x.property(NODE, 0, 7, AWAY, 0), x -> x.link(0, 1, 2), Ask.take(NODE, 2), x -> x.type(31, 1),
            x -> x.type('a', 1), x -> x.cut(-1), x -> x.cut(5), Face::done, Face::undo, Face::begin, Face::commit,
            Face::rollback, Face::checkpoint, Face::recover, x -> x.thing(9, 9, 9), x -> x.chain(-1, true, -1),
            x -> x.has(-1, 0), x -> x.value(9, 9, 9, 9), x -> x.value(NODE, 0, 1, -3), x -> x.state(9),
        };
        for (int i = 0; i < asks.length; i++) {
            answers(0, "error() behind call " + i, KEPT.thenRefused(asks[i]), Face::error);
            Script two = KEPT.thenRefused(x -> x.property(NODE, 0, 1, 4, 0));
            answers(2, "ERROR 2 behind call " + i, two.thenRefused(asks[i]), Face::error);
            Script off = two.then(x -> x.cut(1)).thenRefused(Face::checkpoint);
            answers(2, "ERROR 2 while OFF behind call " + i, off.thenRefused(asks[i]), Face::error);
        }
        answers(2, "behind a commit() for which there is no room", nodes(1).then(changes(0, 248)).then(Face::done)
            .thenRefused(x -> x.property(NODE, 0, 1, 4, 0)).then(Face::begin).then(nodes(1)).then(Face::commit), Face::error);
        answers(2, "behind a power failure in done()", KEPT.thenRefused(x -> x.property(NODE, 0, 1, 4, 0)).then(nodes(1))
            .then(x -> x.cut(1)).thenRefused(Face::done), Face::error);
    }

    private void doneTells() {
        due.part("promise 9: The STATEMENT is done: how many CHANGES it had");
        for (int count : new int[] {0, 1, 2, 248, 249}) {
            Script before = KEPT.then(Face::checkpoint).then(changes(0, count));
            answers(count, "done() of " + count, before, Face::done);
            answers(0, "done() again", before.then(Face::done), Face::done);
            answers(0, "undo() behind it", before.then(Face::done), Face::undo);
            Script begun = KEPT.then(Face::begin).then(changes(0, count));
            answers(count, "done() in a TRANSACTION", begun, Face::done);
            states("done() in a TRANSACTION", begun.then(Face::done), 3, 2, SMALL_LOG, SMALL_LOG, 0, 1, count);
            answers(0, "undo() behind it", begun.then(Face::done), Face::undo);
        }
        answers(2, "the second of a TRANSACTION", KEPT.then(Face::begin).then(nodes(3)).then(Face::done).then(nodes(2)),
            Face::done);
        leavesAll(0, "done() of nothing", KEPT, Face::done);
        leavesAll(0, "done() of nothing in a TRANSACTION", KEPT.then(Face::begin).then(nodes(1)).then(Face::done), Face::done);
        leavesAll(0, "done() of nothing with a WRITE told", KEPT.then(x -> x.cut(1)), Face::done);
    }

    private void doneKeeps() {
        due.part("promise 9: outside of a TRANSACTION it is kept");
        Script more = KEPT.then(nodes(1)).then(x -> x.take(LINK, 0)).then(Face::done);
        answers(Witness.seen(at(more)), "recovered", more.then(Face::recover), Witness::seen);
        Script begun = KEPT.then(Face::begin).then(nodes(1)).then(x -> x.take(LINK, 0)).then(Face::done);
        answers(Witness.seen(at(KEPT)), "recovered in a TRANSACTION", begun.then(Face::recover), Witness::seen);
        answers(Witness.seen(at(KEPT)), "rolled back", begun.then(Face::rollback), Witness::seen);
    }

    private void doneWhileOff() {
        due.part("promise 9: ArithmeticException: ERROR 9; IllegalStateException: the house is OFF, or comes to be so");
        for (Script off : OFF) {
            leavesAll(Due.OFF, "done()", off, Face::done);
        }
        Script more = KEPT.then(nodes(2));
        Object[] wanted = {2, Due.OFF, Due.OFF, Due.OFF, 2};
        for (int n = 0; n <= 4; n++) {
            int told = n;
            answers(wanted[n], "done() with cut(" + n + ")", more.then(x -> x.cut(told)), Face::done);
            answers(2, "done() in a TRANSACTION with cut(" + n + ")",
                KEPT.then(Face::begin).then(nodes(2)).then(x -> x.cut(told)), Face::done);
        }
        Script full = nodes(1).then(changes(0, 248)).then(Face::done).then(x -> x.cut(1));
        answers(Due.ERROR, "no room, ahead of the power", full.then(nodes(1)), Face::done);
        same("no room", Witness.ALL, full.then(nodes(1)).thenRefused(Face::done), full);
    }

    private void undoTells() {
        due.part("promise 10: The STATEMENT is undone: how many CHANGES it had");
        for (int count : new int[] {0, 1, 2, 248, 249}) {
            Script kept = KEPT.then(Face::checkpoint);
            answers(count, "undo() of " + count, kept.then(changes(0, count)), Face::undo);
            same("undo() of " + count, Witness.ALL, kept.then(changes(0, count)).then(Face::undo), kept);
            Script begun = kept.then(Face::begin);
            answers(count, "in a TRANSACTION", begun.then(changes(0, count)), Face::undo);
            same("in a TRANSACTION", Witness.ALL, begun.then(changes(0, count)).then(Face::undo), begun);
        }
        Script all = x -> {
            x.take(LINK, 0);
            x.take(LINK, 1);
            x.take(NODE, 1);
            x.label(0, 1, false);
            x.label(0, 2, true);
            x.property(NODE, 0, 1, TRUTH, 1);
            x.property(NODE, 2, 1, NUMBER, 1);
            x.node();
            x.link(0, 0, 1);
        };
        for (Script before : new Script[] {KEPT, KEPT.then(Face::begin), KEPT.then(Face::begin).then(nodes(1)).then(Face::done)}) {
            answers(9, "undo() of all kinds", before.then(all), Face::undo);
            same("undo() of all kinds", Witness.ALL, before.then(all).then(Face::undo), before);
            leavesAll(0, "undo() of nothing", before, Face::undo);
        }
    }

    private void undoWhileOff() {
        due.part("promise 10: 0 if OFF");
        for (Script off : OFF) {
            leavesAll(0, "undo()", off, Face::undo);
        }
    }

    private void beginTrue() {
        due.part("promise 11: True");
        for (Script before : new Script[] {Script.NOTHING, KEPT, KEPT.then(nodes(1)), KEPT.then(Face::begin).then(Face::commit),
            KEPT.then(Face::begin).then(Face::rollback), KEPT.then(Face::begin).then(Face::recover), OFF_BY_COMMIT.then(Face::recover)}) {
            answers(true, "begin()", before, Face::begin);
            answers("1 0", "state(5) and state(6)", before.then(Face::begin), x -> x.state(5) + " " + x.state(6));
        }
    }

    private void beginFalse() {
        due.part("promise 11: false if one is under way, or the house is OFF");
        Script begun = KEPT.then(Face::begin);
        leavesAll(false, "behind begin()", begun, Face::begin);
        leavesAll(false, "with a STATEMENT under way", begun.then(nodes(2)), Face::begin);
        leavesAll(false, "behind done()", begun.then(nodes(2)).then(Face::done), Face::begin);
        leavesAll(false, "behind undo()", begun.then(nodes(2)).then(Face::undo), Face::begin);
        leavesAll(false, "behind a commit() without room",
            nodes(1).then(changes(0, 248)).then(Face::done).then(Face::begin).then(nodes(1)).then(Face::commit), Face::begin);
        for (Script off : OFF) {
            leavesAll(false, "while OFF", off, Face::begin);
        }
    }

    private void commitTells() {
        due.part("promise 12: The STATEMENT is done, the TRANSACTION too: how many WRITES");
        for (int count : new int[] {0, 1, 2, 248, 249}) {
            Script begun = KEPT.then(Face::checkpoint).then(Face::begin).then(changes(0, count));
            int writes = count == 0 ? 0 : count + 1;
            answers(writes, "commit() of " + count, begun, Face::commit);
            answers(writes, "behind done()", begun.then(Face::done), Face::commit);
            states("commit()", begun.then(Face::commit), 3, 2, SMALL_LOG + 6 + writes, writes, 0, 0, 0);
            answers(count == 0 ? 0 : 1, "TRANSACTIONS", begun.then(Face::commit), Face::recover);
            answers(0, "undo() behind it", begun.then(Face::commit), Face::undo);
        }
        Script two = KEPT.then(Face::begin).then(nodes(1)).then(Face::done).then(x -> x.take(LINK, 0));
        answers(3, "commit() of two STATEMENTS", two, Face::commit);
        answers(Witness.seen(at(two.then(Face::commit))), "recovered", two.then(Face::commit).then(Face::recover), Witness::seen);
        answers(0, "commit() of what was undone", KEPT.then(Face::begin).then(nodes(2)).then(Face::undo), Face::commit);
        same("commit() of nothing", Witness.ALL, KEPT.then(Face::begin).then(Face::commit), KEPT);
        same("commit() of nothing with a WRITE told", Witness.ALL,
            KEPT.then(x -> x.cut(1)).then(Face::begin).then(Face::commit), KEPT.then(x -> x.cut(1)));
    }

    private void commitNone() {
        due.part("promise 12: NONE if none is under way");
        leavesAll(-1, "new", Script.NOTHING, Face::commit);
        leavesAll(-1, "kept", KEPT, Face::commit);
        leavesAll(-1, "a STATEMENT under way", KEPT.then(nodes(2)).then(x -> x.take(LINK, 0)), Face::commit);
        leavesAll(-1, "behind commit()", KEPT.then(Face::begin).then(nodes(1)).then(Face::commit), Face::commit);
        leavesAll(-1, "behind rollback()", KEPT.then(Face::begin).then(nodes(1)).then(Face::rollback), Face::commit);
        leavesAll(-1, "behind recover()", KEPT.then(Face::begin).then(nodes(1)).then(Face::recover), Face::commit);
        leavesAll(-1, "with a WRITE told", KEPT.then(nodes(1)).then(x -> x.cut(1)), Face::commit);
    }

    private void commitNoRoom() {
        due.part("promise 12: -2 if the LOG has no room (the STATEMENT is done, the TRANSACTION goes on)");
        Script begun = nodes(2).then(changes(0, 243)).then(Face::done).then(Face::begin);
        answers(246, "LOG", begun, x -> x.state(3));
        Script three = begun.then(nodes(2)).then(Face::done).then(x -> x.take(NODE, 1));
        Script four = three.then(x -> x.label(0, 1, true));
        answers(4, "commit() of 3", three, Face::commit);
        answers(-2, "commit() of 4", four, Face::commit);
        same("commit() of 4", Witness.ALL, four.then(Face::commit), four.then(Face::done));
        leavesAll(-2, "commit() again", four.then(Face::commit), Face::commit);
        answers(0, "undo(): the STATEMENT is done", four.then(Face::commit), Face::undo);
        states("commit() of 4", four.then(Face::commit), 3, 0, 246, 246, 0, 1, 4);
        answers(true, "rollback() behind it", four.then(Face::commit), Face::rollback);
        same("rollback() behind it", Witness.ALL, four.then(Face::commit).then(Face::rollback), begun.then(Face::rollback));
        answers(1, "the STATEMENT behind it", four.then(Face::commit), Face::node);
        leavesAll(-2, "with a WRITE told", four.then(Face::done).then(x -> x.cut(1)), Face::commit);
    }

    private void commitOff() {
        due.part("promise 12: IllegalStateException: the house is OFF, or comes to be so");
        for (Script off : OFF) {
            leavesAll(Due.OFF, "commit()", off, Face::commit);
        }
        Object[] wanted = {4, Due.OFF, Due.OFF, Due.OFF, Due.OFF, 4};
        Script begun = KEPT.then(Face::begin).then(nodes(2)).then(Face::done).then(nodes(1));
        for (int n = 0; n <= 5; n++) {
            int told = n;
            Script script = begun.then(x -> x.cut(told));
            answers(wanted[n], "commit() with cut(" + n + ")", script, Face::commit);
            boolean fails = wanted[n].equals(Due.OFF);
            answers(fails ? "1 0 0" : "0 0 0", "OFF, TRANSACTION and CHANGES behind it", script.thenRefused(Face::commit),
                x -> x.state(4) + " " + x.state(5) + " " + x.state(6));
        }
    }

    private void rollbackTrue() {
        due.part("promise 13: All CHANGES of the TRANSACTION are undone: true");
        Script begun = KEPT.then(Face::begin);
        Script[] scripts = {
            begun,
            begun.then(nodes(1)),
            begun.then(nodes(1)).then(Face::done),
            begun.then(nodes(1)).then(Face::done).then(x -> x.take(LINK, 0)).then(Face::done).then(x -> x.label(0, 1, false)),
            begun.then(changes(0, 249)),
            begun.then(x -> x.take(NODE, 2)).then(Face::done).then(nodes(1)).then(Face::undo),
            begun.thenRefused(x -> x.label(0, 1, true)),
        };
        for (Script script : scripts) {
            answers(true, "rollback()", script, Face::rollback);
            same("rollback()", Witness.ALL, script.then(Face::rollback), KEPT);
            answers(false, "rollback() again", script.then(Face::rollback), Face::rollback);
        }
    }

    private void rollbackFalse() {
        due.part("promise 13: false if none is under way");
        leavesAll(false, "new", Script.NOTHING, Face::rollback);
        leavesAll(false, "kept", KEPT, Face::rollback);
        leavesAll(false, "a STATEMENT under way", KEPT.then(nodes(2)).then(x -> x.take(LINK, 0)), Face::rollback);
        leavesAll(false, "behind commit()", KEPT.then(Face::begin).then(nodes(1)).then(Face::commit), Face::rollback);
        leavesAll(false, "behind recover()", KEPT.then(Face::begin).then(nodes(1)).then(Face::recover), Face::rollback);
        for (Script off : OFF) {
            leavesAll(false, "while OFF", off, Face::rollback);
        }
    }

    private void checkpointNone() {
        due.part("promise 14: NONE if a TRANSACTION, or a STATEMENT with CHANGES, is under way");
        leavesAll(-1, "a TRANSACTION", KEPT.then(Face::begin), Face::checkpoint);
        leavesAll(-1, "one with CHANGES", KEPT.then(Face::begin).then(nodes(1)).then(Face::done), Face::checkpoint);
        leavesAll(-1, "a STATEMENT with one CHANGE", KEPT.then(nodes(1)), Face::checkpoint);
        leavesAll(-1, "one whose CHANGES leave the graph as it was", KEPT.then(changes(0, 2)), Face::checkpoint);
        leavesAll(-1, "with a WRITE told", KEPT.then(nodes(1)).then(x -> x.cut(1)), Face::checkpoint);
        Script none = KEPT.then(x -> x.label(0, 1, true)).thenRefused(x -> x.label(9, 1, true)).then(x -> x.property(NODE, 0, 7, AWAY, 0));
        answers(6, "a STATEMENT without CHANGES", none, Face::checkpoint);
        answers(6, "one that was undone", KEPT.then(nodes(1)).then(Face::undo), Face::checkpoint);
        answers(7, "one that was done", KEPT.then(nodes(1)).then(Face::done), Face::checkpoint);
        answers(6, "a TRANSACTION that was rolled back", KEPT.then(Face::begin).then(nodes(1)).then(Face::rollback), Face::checkpoint);
        answers(7, "one that was committed", KEPT.then(Face::begin).then(nodes(1)).then(Face::commit), Face::checkpoint);
    }

    private void checkpointOff() {
        due.part("promise 14: How many WRITES. IllegalStateException: the house is OFF, or comes to be so");
        for (Script off : OFF) {
            leavesAll(Due.OFF, "checkpoint()", off, Face::checkpoint);
        }
        for (int n = 0; n <= 7; n++) {
            int told = n;
            Script script = KEPT.then(x -> x.cut(told));
            boolean fails = n >= 1 && n <= 6;
            answers(fails ? Due.OFF : 6, "checkpoint() with cut(" + n + ")", script, Face::checkpoint);
            int writes = SMALL_LOG + (fails ? n - 1 : 6);
            states("checkpoint() with cut(" + n + ")", script.thenRefused(Face::checkpoint),
                fails ? 0 : 3, fails ? 0 : 2, writes, fails ? SMALL_LOG : 0, fails ? 1 : 0, 0, 0);
        }
    }

    private void cutNumbers() {
        due.part("promise 15: The n-th (1 .. 2000) WRITE from now on fails; false for another n");
        for (int n : new int[] {0, 1, 2, 1999, 2000}) {
            answers(true, "cut(" + n + ")", KEPT, x -> x.cut(n));
            answers(true, "cut(" + n + ") in a TRANSACTION", KEPT.then(Face::begin).then(nodes(1)), x -> x.cut(n));
        }
        for (int n : new int[] {LEAST, -2000, -2, -1, 2001, 2002, 4000, MOST}) {
            leavesAll(false, "cut(" + n + ")", KEPT, x -> x.cut(n));
            leavesAll(false, "cut(" + n + ") behind cut(3)", KEPT.then(x -> x.cut(3)), x -> x.cut(n));
            leavesAll(false, "cut(" + n + ") in a STATEMENT", KEPT.then(nodes(1)).then(x -> x.cut(1)), x -> x.cut(n));
        }
    }

    private void cutZero() {
        due.part("promise 15: 0: none does");
        for (int n : new int[] {1, 2, 6}) {
            Script none = KEPT.then(x -> x.cut(n)).then(x -> x.cut(0));
            answers(6, "checkpoint() behind cut(" + n + ") and cut(0)", none, Face::checkpoint);
            same("cut(0)", Witness.ALL, none, KEPT);
        }
        leavesAll(true, "cut(0) without one told", KEPT, x -> x.cut(0));
    }

    private void cutIsTheLatest() {
        due.part("promise 15: The n-th WRITE from now on fails: what was told ahead does not");
        Script later = KEPT.then(x -> x.cut(1)).then(x -> x.cut(7));
        answers(6, "checkpoint()", later, Face::checkpoint);
        answers(Due.OFF, "the next one", later.then(Face::checkpoint), Face::checkpoint);
        same("cut(1), cut(7)", Witness.ALL, later, KEPT.then(x -> x.cut(7)));
        Script sooner = KEPT.then(x -> x.cut(7)).then(x -> x.cut(6));
        answers(Due.OFF, "checkpoint()", sooner, Face::checkpoint);
    }

    /** 64 NODES and 96 LINKS, so that a CHECKPOINT is 161 WRITES. */
    private void cut2000() {
        due.part("promise 15: the 2000th WRITE");
        Script full = nodes(64).then(links(96)).then(Face::done);
        for (int n = 1999; n <= 2000; n++) {
            int told = n;
            Script near = full.then(x -> x.cut(told)).then(x -> {
                for (int i = 0; i < 12; i++) {
                    x.checkpoint();
                }
            });
            answers(161 + 12 * 161, "WRITES", near, x -> x.state(2));
            int left = told - 12 * 161;
            answers(left - 2, "the one ahead of it is written", near.then(changes(1, left - 2)), Face::done);
            answers(Due.OFF, "it fails", near.then(changes(1, left - 1)), Face::done);
            states("it", near.then(changes(1, left - 1)).thenRefused(Face::done), 0, 0, 161 + told - 1, left - 1, 1, 0, 0);
        }
    }

    private void cutCountsFromNowOn() {
        due.part("promise 15: from now on");
        Script told = KEPT.then(x -> x.cut(5));
        Script two = told.then(nodes(1)).then(Face::done);
        answers(1, "two WRITES", two.then(nodes(1)), Face::done);
        answers(Due.OFF, "the fifth", two.then(nodes(1)).then(Face::done).then(nodes(1)), Face::done);
        answers(Due.OFF, "the fifth, of a TRANSACTION", two.then(Face::begin).then(nodes(2)), Face::commit);
        answers(2, "the fourth, of a TRANSACTION", two.then(Face::begin).then(nodes(1)), Face::commit);
        answers(Due.OFF, "the fifth, of a CHECKPOINT", two, Face::checkpoint);
        same("what writes nothing", Witness.ALL,
            told.then(Face::done).then(nodes(1)).then(Face::undo).then(Face::begin).then(nodes(1)).then(Face::rollback), told);
        answers(6, "told once it fails once", KEPT.then(x -> x.cut(1)).thenRefused(Face::checkpoint).then(Face::recover),
            Face::checkpoint);
    }

    private void cutRefused() {
        due.part("promise 15: false if the house is OFF");
        for (Script off : OFF) {
            for (int n : new int[] {-1, 0, 1, 2, 2000, 2001}) {
                leavesAll(false, "cut(" + n + ")", off, x -> x.cut(n));
            }
            answers(6, "no WRITE is told behind recover()", off.then(x -> x.cut(1)).then(Face::recover), Face::checkpoint);
            answers(true, "cut(1) behind recover()", off.then(Face::recover), x -> x.cut(1));
        }
    }

    private void recoverIfNotOff() {
        due.part("promise 16: RECOVERED, also if not OFF (what is under way is lost)");
        Script error = KEPT.thenRefused(x -> x.label(9, 9, true));
        Script[] scripts = {
            KEPT, KEPT.then(nodes(1)), KEPT.then(x -> x.take(LINK, 0)).then(x -> x.take(NODE, 2)), KEPT.then(Face::begin),
            KEPT.then(Face::begin).then(nodes(1)).then(Face::done), KEPT.then(x -> x.cut(1)),
            KEPT.then(Face::begin).then(nodes(1)).then(Face::done).then(x -> x.label(0, 1, false)).then(x -> x.cut(2)),
            error,
        };
        for (Script script : scripts) {
            answers(1, "recover()", script, Face::recover);
            same("recover()", Witness.ALL, script.then(Face::recover), KEPT);
        }
        answers(8, "error() behind it", error.then(Face::recover), Face::error);
        leavesAll(1, "recover() of what is kept", KEPT, Face::recover);
    }

    private void recoverTells() {
        due.part("promise 16: how many TRANSACTIONS came from the LOG");
        for (int count = 0; count <= 4; count++) {
            int times = count;
            Script some = x -> {
                for (int i = 0; i < times; i++) {
                    x.node();
                    x.done();
                }
            };
            answers(count, "recover()", some, Face::recover);
            answers(count, "recover() again", some.then(Face::recover), Face::recover);
            answers(count, "behind a CHECKPOINT", KEPT.then(Face::checkpoint).then(some), Face::recover);
            answers(count + 1, "with one more", some.then(Face::begin).then(nodes(1)).then(Face::done).then(nodes(1))
                .then(Face::commit), Face::recover);
            answers(count, "with one of nothing", some.then(Face::begin).then(Face::commit), Face::recover);
            answers(count, "with one rolled back", some.then(Face::begin).then(nodes(1)).then(Face::rollback), Face::recover);
            answers(count, "with one that lost its END", some.then(nodes(2)).then(x -> x.cut(3)).thenRefused(Face::done),
                Face::recover);
        }
        Script most = nodes(1).then(Face::done).then(Face::checkpoint).then(x -> {
            for (int i = 0; i < 125; i++) {
                x.label(0, 1, i % 2 == 0);
                x.done();
            }
        });
        answers(250, "LOG", most, x -> x.state(3));
        answers(125, "as many as the LOG has room for", most, Face::recover);
    }

    private void recoverEndsOff() {
        due.part("promise 16: It is not OFF then, no WRITE is told");
        int[] writes = {SMALL_LOG + 1, SMALL_LOG + 3, SMALL_LOG + 2};
        for (int i = 0; i < OFF.length; i++) {
            states("recover()", OFF[i].then(Face::recover), 3, 2, writes[i], SMALL_LOG, 0, 0, 0);
            answers(1, "recover()", OFF[i], Face::recover);
            leavesAll(1, "recover() again", OFF[i].then(Face::recover), Face::recover);
            answers(3, "node()", OFF[i].then(Face::recover), Face::node);
            answers(6, "checkpoint()", OFF[i].then(Face::recover), Face::checkpoint);
        }
        answers(6, "a WRITE told ahead", KEPT.then(x -> x.cut(1)).then(Face::recover), Face::checkpoint);
        answers(6, "one told ahead, farther", KEPT.then(x -> x.cut(6)).then(Face::recover), Face::checkpoint);
    }

    private void thingWhat() {
        due.part("promise 17: what 0 .. 3; NONE if there is none such, or for another what");
        Script some = KEPT.then(x -> x.property(LINK, 0, 1, TRUTH, 1)).then(x -> x.link(0, 2, -7));
        int[][] wanted = {
            {NODE, 0, 1, 1, 2, 0}, {NODE, 1, 0, 0, 1, 2}, {NODE, 2, 0, 0, 0, 1},
            {LINK, 0, 1, 0, 1, 8}, {LINK, 1, 0, 1, 1, 9}, {LINK, 2, 0, 0, 2, -7},
        };
        for (int[] row : wanted) {
            for (int what = 0; what <= 3; what++) {
                int w = what;
                leavesAll(row[2 + w], "thing(" + row[0] + ", " + row[1] + ", " + w + ")", some, x -> x.thing(row[0], row[1], w));
            }
            for (int what : new int[] {LEAST, -2, -1, 4, 5, MOST}) {
                leavesAll(-1, "thing(" + row[0] + ", " + row[1] + ", " + what + ")", some, x -> x.thing(row[0], row[1], what));
            }
        }
        for (int what : new int[] {-1, 0, 1, 2, 3, 4}) {
            answers(-1, "no NODE, what " + what, some, x -> x.thing(NODE, 3, what));
            answers(-1, "no LINK, what " + what, some, x -> x.thing(LINK, 3, what));
            answers(-1, "no kind of thing, what " + what, some, x -> x.thing(3, 0, what));
            answers(-1, "no kind of thing, what " + what, some, x -> x.thing(6, 0, what));
        }
    }

    private void chainK() {
        due.part("promise 18: The k-th LINK, by numbers; NONE if there is none");
        Script some = nodes(3).then(x -> {
            x.link(0, 1, 0);
            x.link(1, 0, 0);
            x.link(0, 0, 0);
            x.link(0, 2, 0);
            x.done();
            x.take(LINK, 0);
            x.done();
            x.node();
            x.link(0, 3, 0);
        });
        int[] out = {0, 2, 3};
        int[] in = {1, 2};
        for (int k = -1; k <= 4; k++) {
            int at = k;
            leavesAll(k >= 0 && k < 3 ? out[k] : -1, "chain(0, true, " + k + ")", some, x -> x.chain(0, true, at));
            leavesAll(k >= 0 && k < 2 ? in[k] : -1, "chain(0, false, " + k + ")", some, x -> x.chain(0, false, at));
        }
        for (int k : ODD) {
            leavesAll(-1, "chain(0, true, " + k + ")", some, x -> x.chain(0, true, k));
            leavesAll(-1, "chain(0, false, " + k + ")", some, x -> x.chain(0, false, k));
        }
        answers(-1, "no LINK starts there", some, x -> x.chain(2, true, 0));
        answers(3, "the only one that ends there", some, x -> x.chain(2, false, 0));
        answers(-1, "behind the only one", some, x -> x.chain(2, false, 1));
        for (int n : new int[] {LEAST, -1, 4, 63, 64, MOST}) {
            leavesAll(-1, "chain(" + n + ", true, 0)", some, x -> x.chain(n, true, 0));
            leavesAll(-1, "chain(" + n + ", false, 0)", some, x -> x.chain(n, false, 0));
        }
        Script most = nodes(2).then(x -> {
            for (int i = 0; i < 96; i++) {
                x.link(1, 0, i);
            }
        });
        for (int k = 94; k <= 97; k++) {
            int at = k;
            answers(k <= 95 ? k : -1, "chain(1, true, " + k + ") of 96", most, x -> x.chain(1, true, at));
            answers(k <= 95 ? k : -1, "chain(0, false, " + k + ") of 96", most, x -> x.chain(0, false, at));
        }
        answers(-1, "chain(0, true, 0) of 96 that end there", most, x -> x.chain(0, true, 0));
    }

    private void hasLabel() {
        due.part("promise 19: Whether a NODE has a LABEL");
        Script some = nodes(3).then(labels(0, 4)).then(x -> x.label(1, 0, true)).then(x -> x.label(2, -1, true));
        for (int label = 0; label <= 5; label++) {
            int one = label;
            leavesAll(label >= 1 && label <= 4, "has(0, " + label + ")", some, x -> x.has(0, one));
            leavesAll(label == 0, "has(1, " + label + ")", some, x -> x.has(1, one));
        }
        answers(true, "has(2, -1)", some, x -> x.has(2, -1));
        answers(false, "has(2, 0)", some, x -> x.has(2, 0));
        for (int n : new int[] {LEAST, -1, 3, 63, 64, MOST}) {
            leavesAll(false, "has(" + n + ", 0)", some, x -> x.has(n, 0));
        }
        for (int label : ODD) {
            leavesAll(false, "has(0, " + label + ")", some, x -> x.has(0, label));
        }
        answers(false, "behind the first of four taken away", some.then(x -> x.label(0, 1, false)), x -> x.has(0, 1));
        answers(true, "the last of them", some.then(x -> x.label(0, 1, false)), x -> x.has(0, 4));
        answers(false, "behind undo()", some.then(Face::undo), x -> x.has(0, 1));
    }

    private void valueWhat() {
        due.part("promise 20: what -1: its kind (0 if it has none), -2: its number, from 0 on: a character of a text");
        Script some = nodes(1).then(links(1)).then(x -> {
            for (int thing = NODE; thing <= LINK; thing++) {
                x.property(thing, 0, 1, NUMBER, -77);
                x.property(thing, 0, 2, TRUTH, 1);
                x.property(thing, 0, 3, TEXT, 0);
                x.type(word(" ~"), 2);
                x.property(thing, 0, 4, TEXT, 0);
                typed(24).on(x);
                x.property(thing, 0, 5, TEXT, 0);
            }
        });
        Object[][] wanted = {
            {1, -1, 1}, {1, -2, -77}, {2, -1, 2}, {2, -2, 1}, {3, -1, 3}, {3, -2, 0}, {4, -1, 3}, {4, -2, 2},
            {4, 0, 32}, {4, 1, 126}, {5, -2, 24}, {5, 0, (int) 'a'}, {5, 22, 'a' + 22}, {5, 23, 'a' + 23}, {6, -1, 0}, {-1, -1, 0},
        };
        Object[][] none = {
            {1, 0}, {1, 1}, {2, 0}, {2, 1}, {3, 0}, {4, 2}, {5, 24}, {5, 25}, {6, -2}, {6, 0}, {6, -3}, {1, -3}, {4, -3}, {5, -4},
        };
        for (int thing = NODE; thing <= LINK; thing++) {
            int t = thing;
            for (Object[] row : wanted) {
                leavesAll(row[2], "value(" + t + ", 0, " + row[0] + ", " + row[1] + ")", some,
                    x -> x.value(t, 0, (int) row[0], (int) row[1]));
            }
            for (Object[] row : none) {
                leavesAll(Due.NO_SUCH, "value(" + t + ", 0, " + row[0] + ", " + row[1] + ")", some,
                    x -> x.value(t, 0, (int) row[0], (int) row[1]));
            }
            for (int key = 1; key <= 6; key++) {
                for (int what : ODD) {
                    int k = key;
                    answers(Due.NO_SUCH, "value(" + t + ", 0, " + k + ", " + what + ")", some, x -> x.value(t, 0, k, what));
                }
            }
        }
    }

    private void valueNone() {
        due.part("promise 20: NoSuchElementException: no such thing, PROPERTY (but what -1) or character");
        for (int what : new int[] {LEAST, -3, -2, -1, 0, 1, MOST}) {
            for (int n : new int[] {LEAST, -1, 3, 63, 64, 95, 96, MOST}) {
                answers(Due.NO_SUCH, "value(4, " + n + ", 1, " + what + ")", KEPT, x -> x.value(NODE, n, 1, what));
                answers(Due.NO_SUCH, "value(5, " + n + ", 1, " + what + ")", KEPT, x -> x.value(LINK, n, 1, what));
            }
            for (int thing : new int[] {LEAST, -1, 0, 3, 6, MOST}) {
                answers(Due.NO_SUCH, "value(" + thing + ", 0, 1, " + what + ")", KEPT, x -> x.value(thing, 0, 1, what));
            }
            answers(what == -1 ? 0 : Due.NO_SUCH, "no PROPERTY, what " + what, KEPT, x -> x.value(NODE, 0, 2, what));
            answers(what == -1 ? 0 : Due.NO_SUCH, "one taken away, what " + what,
                KEPT.then(x -> x.property(NODE, 0, 1, AWAY, 0)), x -> x.value(NODE, 0, 1, what));
            answers(Due.NO_SUCH, "a NODE taken away, what " + what, KEPT.then(x -> x.take(NODE, 2)), x -> x.value(NODE, 2, 1, what));
        }
    }

    private void stateWhat() {
        due.part("promise 21: What 0 .. 6; NONE for another what");
        for (Script script : new Script[] {Script.NOTHING, KEPT, KEPT.then(Face::begin).then(nodes(1)), OFF_BY_DONE}) {
            for (int what : new int[] {LEAST, -2, -1, 7, 8, MOST}) {
                leavesAll(-1, "state(" + what + ")", script, x -> x.state(what));
            }
        }
        states("kept", KEPT, 3, 2, SMALL_LOG, SMALL_LOG, 0, 0, 0);
        states("a TRANSACTION", KEPT.then(Face::begin).then(nodes(1)), 4, 2, SMALL_LOG, SMALL_LOG, 0, 1, 1);
        states("OFF", OFF_BY_DONE, 0, 0, SMALL_LOG + 1, SMALL_LOG + 1, 1, 0, 0);
        states("OFF by commit()", OFF_BY_COMMIT, 0, 0, SMALL_LOG + 3, SMALL_LOG + 3, 1, 0, 0);
        states("OFF by checkpoint()", OFF_BY_CHECKPOINT, 0, 0, SMALL_LOG + 2, SMALL_LOG, 1, 0, 0);
        states("a CHECKPOINT", KEPT.then(Face::checkpoint), 3, 2, SMALL_LOG + 6, 0, 0, 0, 0);
    }

    private void stateCounts() {
        due.part("promise 21: 6: CHANGES of the TRANSACTION (or STATEMENT outside of one) so far");
        Ask six = x -> x.state(6);
        for (int count : new int[] {0, 1, 248, 249}) {
            answers(count, "of a STATEMENT", KEPT.then(changes(0, count)), six);
            Script begun = KEPT.then(Face::begin);
            answers(count, "of a TRANSACTION", begun.then(changes(0, count)), six);
            answers(count, "behind done()", begun.then(changes(0, count)).then(Face::done), six);
            answers(0, "behind undo()", begun.then(changes(0, count)).then(Face::undo), six);
            answers(0, "behind rollback()", begun.then(changes(0, count)).then(Face::rollback), six);
        }
        answers(3, "of two STATEMENTS", KEPT.then(Face::begin).then(nodes(2)).then(Face::done).then(nodes(1)), six);
        answers(2, "of two, one undone", KEPT.then(Face::begin).then(nodes(2)).then(Face::done).then(nodes(1)).then(Face::undo), six);
        answers(0, "behind begin()", KEPT.then(nodes(2)).then(Face::begin), six);
        answers(0, "behind recover()", KEPT.then(nodes(2)).then(Face::recover), six);
        answers(1, "what is refused is none", KEPT.then(nodes(1)).thenRefused(x -> x.label(9, 1, true)), six);
    }
}
