/** Each sentence of the document's Terms that gives a limit or an order: at the edge and one step on each side. */
public final class TermsTest extends Bench {
    private static final int[] NO_NODE = {LEAST, -1, 64, 65, 96, MOST};
    private static final int[] NO_LINK = {LEAST, -1, 96, 97, MOST};
    private static final int[] NO_THING = {LEAST, -5, -4, -1, 0, 1, 2, 3, 6, 7, MOST};

    private static final Script SMALL = nodes(3).then(x -> {
        x.link(0, 1, 8);
        x.link(1, 1, 9);
        x.type(word("tape"), 4);
    });
    private static final Script FULL = nodes(64).then(links(96)).then(labels(0, 4)).then(properties(NODE, 0, 6))
        .then(properties(LINK, 0, 6));
    private static final int FULL_CHANGES = 64 + 96 + 4 + 6 + 6;

    private TermsTest() {
        super("TermsTest");
    }

    public static void main(String[] args) {
        TermsTest test = new TermsTest();
        test.nodeNumbers();
        test.nodesAsArguments();
        test.linkNumbers();
        test.linksAsArguments();
        test.kindsOfThing();
        test.startAndEnd();
        test.anyType();
        test.upToFourLabels();
        test.labelsAreInts();
        test.upToSixProperties();
        test.keysAreInts();
        test.numbersAreLongs();
        test.truths();
        test.texts();
        test.tapeHas24();
        test.charactersOfTheTape();
        test.statement();
        test.leastNumber();
        test.numbersAreFreeAgain();
        test.numbersMadeAndTakenAreFreeAgain();
        test.takenAwayIsRefused();
        test.eachChangeCounts();
        test.othersStay();
        test.whatIsNoChange();
        test.noChangeIsNeverRefused();
        test.at249();
        test.at249InTransaction();
        test.undoneChangesDoNotCount();
        test.error2();
        test.error6();
        test.error7();
        test.error8();
        test.error9();
        test.orderOfErrors();
        test.errorOfDone();
        test.beginUndoes();
        test.transactionEnds();
        test.eachStatementIsOne();
        test.oneWriteForEachChange();
        test.logHas250();
        test.logHas250InTransaction();
        test.checkpointWrites();
        test.powerFailsAtLog();
        test.powerFailsAtCheckpoint();
        test.offHasNoGraph();
        test.recovered();
        test.withoutEndIsDropped();
        test.due.end();
    }

    private void nodeNumbers() {
        due.part("NODES 0 .. 63");
        answers(0, "the first node()", Script.NOTHING, Face::node);
        answers(62, "the 63rd node()", nodes(62), Face::node);
        answers(63, "the 64th node()", nodes(63), Face::node);
        states("64 NODES", nodes(64), 64, 0, 0, 0, 0, 0, 64);
        error(6, "the 65th node()", nodes(64), Face::node);
        error(6, "the 66th node()", nodes(64).thenRefused(Face::node), Face::node);
    }

    private void nodesAsArguments() {
        due.part("NODES 0 .. 63, as arguments");
        for (int n : new int[] {0, 1, 62, 63}) {
            answers(true, "label(" + n + ")", nodes(64), x -> x.label(n, 1, true));
            answers(true, "property(4, " + n + ")", nodes(64), x -> x.property(NODE, n, 1, NUMBER, 1));
            answers(0, "link(" + n + ", 0)", nodes(64), x -> x.link(n, 0, 1));
            answers(0, "link(0, " + n + ")", nodes(64), x -> x.link(0, n, 1));
            answers("void", "take(4, " + n + ")", nodes(64), Ask.take(NODE, n));
            answers(0, "thing(4, " + n + ", 0)", nodes(64), x -> x.thing(NODE, n, 0));
            answers(true, "has(" + n + ")", nodes(64).then(x -> x.label(n, 1, true)), x -> x.has(n, 1));
            answers(0, "value(4, " + n + ")", nodes(64), x -> x.value(NODE, n, 1, -1));
            answers(0, "chain(" + n + ", true, 0)", nodes(64).then(x -> x.link(n, n, 1)), x -> x.chain(n, true, 0));
            answers(0, "chain(" + n + ", false, 0)", nodes(64).then(x -> x.link(n, n, 1)), x -> x.chain(n, false, 0));
        }
        for (int n : NO_NODE) {
            error(8, "label(" + n + ", 1, true)", nodes(64), x -> x.label(n, 1, true));
            error(8, "label(" + n + ", 1, false)", nodes(64), x -> x.label(n, 1, false));
            error(8, "property(4, " + n + ")", nodes(64), x -> x.property(NODE, n, 1, NUMBER, 1));
            error(8, "link(" + n + ", 0)", nodes(64), x -> x.link(n, 0, 1));
            error(8, "link(0, " + n + ")", nodes(64), x -> x.link(0, n, 1));
            error(8, "take(4, " + n + ")", nodes(64), Ask.take(NODE, n));
            leavesAll(-1, "thing(4, " + n + ", 0)", nodes(64), x -> x.thing(NODE, n, 0));
            leavesAll(false, "has(" + n + ")", nodes(64), x -> x.has(n, 1));
            leavesAll(Due.NO_SUCH, "value(4, " + n + ")", nodes(64), x -> x.value(NODE, n, 1, -1));
            leavesAll(-1, "chain(" + n + ", true, 0)", nodes(64).then(links(1)), x -> x.chain(n, true, 0));
            leavesAll(-1, "chain(" + n + ", false, 0)", nodes(64).then(links(1)), x -> x.chain(n, false, 0));
        }
    }

    private void linkNumbers() {
        due.part("LINKS 0 .. 95");
        Ask link = x -> x.link(0, 0, 5);
        answers(0, "the first link()", nodes(1), link);
        answers(94, "the 95th link()", nodes(1).then(links(94)), link);
        answers(95, "the 96th link()", nodes(1).then(links(95)), link);
        states("96 LINKS", nodes(1).then(links(96)), 1, 96, 0, 0, 0, 0, 97);
        error(6, "the 97th link()", nodes(1).then(links(96)), link);
        error(6, "the 98th link()", nodes(1).then(links(96)).thenRefused(link), link);
    }

    private void linksAsArguments() {
        due.part("LINKS 0 .. 95, as arguments");
        Script before = nodes(1).then(links(96));
        for (int n : new int[] {0, 1, 94, 95}) {
            answers(true, "property(5, " + n + ")", before, x -> x.property(LINK, n, 1, NUMBER, 1));
            answers("void", "take(5, " + n + ")", before, Ask.take(LINK, n));
            answers(n, "thing(5, " + n + ", 3)", before, x -> x.thing(LINK, n, 3));
            answers(0, "value(5, " + n + ")", before, x -> x.value(LINK, n, 1, -1));
            answers(n, "chain(0, true, " + n + ")", before, x -> x.chain(0, true, n));
            answers(n, "chain(0, false, " + n + ")", before, x -> x.chain(0, false, n));
        }
        for (int n : NO_LINK) {
            error(8, "property(5, " + n + ")", before, x -> x.property(LINK, n, 1, NUMBER, 1));
            error(8, "take(5, " + n + ")", before, Ask.take(LINK, n));
            leavesAll(-1, "thing(5, " + n + ", 3)", before, x -> x.thing(LINK, n, 3));
            leavesAll(Due.NO_SUCH, "value(5, " + n + ")", before, x -> x.value(LINK, n, 1, -1));
            leavesAll(-1, "chain(0, true, " + n + ")", before, x -> x.chain(0, true, n));
            leavesAll(-1, "chain(0, false, " + n + ")", before, x -> x.chain(0, false, n));
        }
    }

    private void kindsOfThing() {
        due.part("NODES (kind 4), LINKS (kind 5)");
        for (int thing = NODE; thing <= LINK; thing++) {
            int t = thing;
            answers(true, "property(" + t + ")", SMALL, x -> x.property(t, 1, 1, NUMBER, 1));
            answers(0, "thing(" + t + ")", SMALL, x -> x.thing(t, 1, 0));
            answers(0, "value(" + t + ")", SMALL, x -> x.value(t, 1, 1, -1));
        }
        answers("void", "take(4, 2)", SMALL, Ask.take(NODE, 2));
        answers("void", "take(5, 1)", SMALL, Ask.take(LINK, 1));
        states("take(4, 2)", SMALL.then(x -> x.take(NODE, 2)), 2, 2);
        states("take(5, 1)", SMALL.then(x -> x.take(LINK, 1)), 3, 1);
        for (int thing : NO_THING) {
            error(8, "property(" + thing + ")", SMALL, x -> x.property(thing, 1, 1, NUMBER, 1));
            error(8, "take(" + thing + ")", SMALL, Ask.take(thing, 1));
            leavesAll(-1, "thing(" + thing + ")", SMALL, x -> x.thing(thing, 1, 0));
            leavesAll(Due.NO_SUCH, "value(" + thing + ")", SMALL, x -> x.value(thing, 1, 1, -1));
        }
        error(8, "property(5, 2): a NODE has that number, no LINK", SMALL, x -> x.property(LINK, 2, 1, NUMBER, 1));
        error(8, "take(5, 2)", SMALL, Ask.take(LINK, 2));
        leavesAll(-1, "thing(5, 2, 0)", SMALL, x -> x.thing(LINK, 2, 0));
    }

    private void startAndEnd() {
        due.part("LINKS, each with a start and an end NODE");
        answers(2, "link(2, 2, 0): both the same", SMALL, x -> x.link(2, 2, 0));
        answers(2, "link(0, 1, 8): another of the same ends and TYPE", SMALL, x -> x.link(0, 1, 8));
        answers(0, "start", SMALL, x -> x.thing(LINK, 0, 1));
        answers(1, "end", SMALL, x -> x.thing(LINK, 0, 2));
        error(8, "link(3, 0, 8): no start", SMALL, x -> x.link(3, 0, 8));
        error(8, "link(0, 3, 8): no end", SMALL, x -> x.link(0, 3, 8));
        error(8, "link(3, 3, 8): neither", SMALL, x -> x.link(3, 3, 8));
    }

    private void anyType() {
        due.part("a TYPE (any int)");
        for (int type : new int[] {LEAST, -2, -1, 0, 1, MOST}) {
            answers(2, "link(0, 1, " + type + ")", SMALL, x -> x.link(0, 1, type));
            answers(type, "its TYPE", SMALL.then(x -> x.link(0, 1, type)), x -> x.thing(LINK, 2, 3));
        }
    }

    private void upToFourLabels() {
        due.part("A NODE has up to 4 LABELS");
        answers(true, "the 3rd", SMALL.then(labels(0, 2)), x -> x.label(0, 3, true));
        answers(true, "the 4th", SMALL.then(labels(0, 3)), x -> x.label(0, 4, true));
        answers(4, "how many", SMALL.then(labels(0, 4)), x -> x.thing(NODE, 0, 1));
        error(6, "the 5th", SMALL.then(labels(0, 4)), x -> x.label(0, 5, true));
        error(6, "the 5th again", SMALL.then(labels(0, 4)).thenRefused(x -> x.label(0, 5, true)), x -> x.label(0, 5, true));
        answers(true, "another NODE's first", SMALL.then(labels(0, 4)), x -> x.label(1, 5, true));
        answers(true, "one for one taken away", SMALL.then(labels(0, 4)).then(x -> x.label(0, 2, false)),
            x -> x.label(0, 5, true));
        error(6, "a 5th in the next STATEMENT", SMALL.then(labels(0, 4)).then(Face::done), x -> x.label(0, 5, true));
    }

    private void labelsAreInts() {
        due.part("LABELS (ints)");
        for (int label : new int[] {LEAST, LEAST + 1, -1, 0, 1, MOST - 1, MOST}) {
            answers(true, "label(0, " + label + ", true)", SMALL, x -> x.label(0, label, true));
            Script put = SMALL.then(x -> x.label(0, label, true));
            answers(true, "has(0, " + label + ")", put, x -> x.has(0, label));
            answers(false, "has(0, " + (label + 1) + ")", put, x -> x.has(0, label + 1));
            answers(true, "label(0, " + label + ", false)", put, x -> x.label(0, label, false));
        }
    }

    private void upToSixProperties() {
        due.part("each thing up to 6 PROPERTIES");
        for (int thing = NODE; thing <= LINK; thing++) {
            int t = thing;
            String name = t == NODE ? " of a NODE" : " of a LINK";
            answers(true, "the 5th" + name, SMALL.then(properties(t, 0, 4)), x -> x.property(t, 0, 5, NUMBER, 1));
            answers(true, "the 6th" + name, SMALL.then(properties(t, 0, 5)), x -> x.property(t, 0, 6, NUMBER, 1));
            Script six = SMALL.then(properties(t, 0, 6));
            answers(6, "how many" + name, six, x -> x.thing(t, 0, 0));
            error(6, "the 7th" + name, six, x -> x.property(t, 0, 7, NUMBER, 1));
            error(6, "a truth as the 7th" + name, six, x -> x.property(t, 0, 7, TRUTH, 1));
            answers(true, "another VALUE for the 6th" + name, six, x -> x.property(t, 0, 6, TRUTH, 1));
            answers(true, "the first" + name + " beside it", six, x -> x.property(t, 1, 7, NUMBER, 1));
            answers(true, "one for one taken away" + name, six.then(x -> x.property(t, 0, 1, AWAY, 0)),
                x -> x.property(t, 0, 7, NUMBER, 1));
            answers(Due.ERROR, "a text as the 7th" + name, six, x -> x.property(t, 0, 7, TEXT, 0));
            Script text = six.thenRefused(x -> x.property(t, 0, 7, TEXT, 0));
            answers(6, "error() of it", text, Face::error);
            answers(Witness.seen(at(six)), "what is seen behind it", text, Witness::seen);
        }
    }

    private void keysAreInts() {
        due.part("a KEY (an int)");
        for (int key : new int[] {LEAST, LEAST + 1, -2, -1, 0, 1, MOST - 1, MOST}) {
            Script put = SMALL.then(x -> x.property(NODE, 0, key, NUMBER, 5));
            answers(5, "VALUE of KEY " + key, put, x -> x.value(NODE, 0, key, -2));
            answers(0, "kind of KEY " + (key + 1), put, x -> x.value(NODE, 0, key + 1, -1));
            answers(true, "KEY " + key + " taken away", put, x -> x.property(NODE, 0, key, AWAY, 0));
        }
    }

    private void numbersAreLongs() {
        due.part("a VALUE: a number (kind 1)");
        for (long v : new long[] {Long.MIN_VALUE, LEAST - 1L, LEAST, -1, 0, 1, 2, MOST, MOST + 1L, Long.MAX_VALUE}) {
            answers(true, "number " + v, SMALL, x -> x.property(NODE, 0, 1, NUMBER, v));
            Script put = SMALL.then(x -> x.property(NODE, 0, 1, NUMBER, v));
            answers(v, "value", put, x -> x.value(NODE, 0, 1, -2));
            answers(1, "kind", put, x -> x.value(NODE, 0, 1, -1));
            leavesAll(false, "the same", put, x -> x.property(NODE, 0, 1, NUMBER, v));
            answers(true, "one more", put, x -> x.property(NODE, 0, 1, NUMBER, v + 1));
            answers(true, "the same low half", put, x -> x.property(NODE, 0, 1, NUMBER, v ^ 1L << 32));
        }
    }

    private void truths() {
        due.part("a truth (2; 1 or 0)");
        for (long v = 0; v <= 1; v++) {
            long truth = v;
            Script put = SMALL.then(x -> x.property(NODE, 0, 1, TRUTH, truth));
            answers(true, "truth " + v, SMALL, x -> x.property(NODE, 0, 1, TRUTH, truth));
            answers(v, "value", put, x -> x.value(NODE, 0, 1, -2));
            answers(2, "kind", put, x -> x.value(NODE, 0, 1, -1));
        }
        for (long v : new long[] {Long.MIN_VALUE, -2, -1, 2, 3, 1L << 32, 1L << 32 | 1, Long.MAX_VALUE}) {
            error(2, "truth " + v, SMALL, x -> x.property(NODE, 0, 1, TRUTH, v));
        }
    }

    private void texts() {
        due.part("a text (3; 0 to 24 characters)");
        for (int count : new int[] {0, 1, 8, 9, 23, 24}) {
            Script put = nodes(1).then(typed(count)).then(x -> x.property(NODE, 0, 1, TEXT, 7));
            answers(count, "how many", put, x -> x.value(NODE, 0, 1, -2));
            answers(3, "kind", put, x -> x.value(NODE, 0, 1, -1));
            for (int i = 0; i < count; i++) {
                int at = i;
                answers('a' + i, "character " + i, put, x -> x.value(NODE, 0, 1, at));
            }
            answers(Due.NO_SUCH, "character " + count, put, x -> x.value(NODE, 0, 1, count));
        }
    }

    private void tapeHas24() {
        due.part("THE TAPE has at most 24 characters");
        for (int n = 1; n <= 8; n++) {
            int count = n;
            long word = word("abcdefgh");
            answers(true, n + " up to 23", typed(23 - n), x -> x.type(word, count));
            answers(true, n + " up to 24", typed(24 - n), x -> x.type(word, count));
            leavesAll(false, n + " up to 25", typed(25 - n), x -> x.type(word, count));
            leavesAll(false, n + " behind 24", typed(24), x -> x.type(word, count));
        }
    }

    private void charactersOfTheTape() {
        due.part("characters, 32 .. 126");
        for (int c = 0; c <= 255; c++) {
            int character = c;
            if (c >= 32 && c <= 126) {
                Script put = nodes(1).then(x -> x.type(character, 1)).then(x -> x.property(NODE, 0, 1, TEXT, 0));
                answers(true, "type(" + c + ", 1)", nodes(1), x -> x.type(character, 1));
                answers(c, "the character", put, x -> x.value(NODE, 0, 1, 0));
            } else {
                leavesAll(false, "type(" + c + ", 1)", typed(2), x -> x.type(character, 1));
            }
        }
        for (int bad : new int[] {0, 31, 127, 128, 255}) {
            for (int place = 0; place < 8; place++) {
                long word = word("abcdefgh") & ~(255L << 8 * place) | (long) bad << 8 * place;
                int n = place;
                leavesAll(false, bad + " as the byte " + place, typed(2), x -> x.type(word, 8));
                leavesAll(false, bad + " as the highest of the bytes", typed(2), x -> x.type(word, n + 1));
                if (place > 0) {
                    answers(true, bad + " above the bytes that go to the tape", typed(2), x -> x.type(word, n));
                }
            }
        }
    }

    private void statement() {
        due.part("A STATEMENT is all that is done till done() or undo()");
        Script some = SMALL.then(Face::done).then(nodes(1));
        answers(1, "undo() of what came behind done()", some, Face::undo);
        answers(2, "undo() of what came behind undo()", some.then(Face::undo).then(nodes(2)), Face::undo);
        answers(2, "looks and refused calls leave it under way",
            some.thenRefused(x -> x.label(9, 1, true)).then(x -> x.type('a', 1)).then(x -> x.state(0))
                .thenRefused(x -> x.value(NODE, 9, 1, 1)).then(x -> x.cut(0)).then(Face::checkpoint).then(Face::commit)
                .then(Face::rollback).then(nodes(1)), Face::done);
    }

    private void leastNumber() {
        due.part("A new thing has the least number that none has, and of which none was taken away in this STATEMENT");
        Script three = nodes(3).then(links(3)).then(Face::done);
        answers(3, "node(): 0 to 2 are there", three, Face::node);
        answers(3, "node(): 2 was taken away", three.then(x -> x.take(NODE, 2)), Face::node);
        answers(4, "node(): 3 was made and taken away", three.then(nodes(1)).then(x -> x.take(NODE, 3)), Face::node);
        answers(2, "node(): 2 was taken away ahead", three.then(x -> x.take(NODE, 2)).then(Face::done), Face::node);
        answers(1, "node(): 1 and 2 were taken away ahead",
            three.then(x -> x.take(NODE, 2)).then(x -> x.take(NODE, 1)).then(Face::done), Face::node);
        Ask link = x -> x.link(0, 0, 7);
        answers(3, "link(): 0 to 2 are there", three, link);
        answers(3, "link(): 0 was taken away", three.then(x -> x.take(LINK, 0)), link);
        answers(4, "link(): 0 was taken away, 3 made", three.then(x -> x.take(LINK, 0)).then(links(1)), link);
        answers(0, "link(): 0 was taken away ahead", three.then(x -> x.take(LINK, 0)).then(Face::done), link);
        answers(3, "node(): LINK 3 was taken away", three.then(links(1)).then(x -> x.take(LINK, 3)), Face::node);
        answers(3, "link(): NODE 3 was taken away", three.then(nodes(1)).then(x -> x.take(NODE, 3)), link);
        error(6, "node(): none left but one taken away", nodes(64).then(x -> x.take(NODE, 63)), Face::node);
        error(6, "link(): none left but one taken away", nodes(1).then(links(96)).then(x -> x.take(LINK, 95)), link);
        answers(63, "node(): one left", nodes(63).then(Face::done).then(x -> x.take(NODE, 0)), Face::node);
        answers(95, "link(): one left", nodes(1).then(links(95)).then(Face::done).then(x -> x.take(LINK, 0)), link);
    }

    private void numbersAreFreeAgain() {
        due.part("a number taken away is free again behind the STATEMENT");
        Script taken = nodes(2).then(links(2)).then(Face::done).then(x -> x.take(LINK, 0)).then(x -> x.take(NODE, 1));
        freeBehind("done()", taken.then(Face::done));
        freeBehind("begin() and done()", nodes(2).then(links(2)).then(Face::done).then(Face::begin)
            .then(x -> x.take(LINK, 0)).then(x -> x.take(NODE, 1)).then(Face::done));
        freeBehind("commit()", nodes(2).then(links(2)).then(Face::done).then(Face::begin)
            .then(x -> x.take(LINK, 0)).then(x -> x.take(NODE, 1)).then(Face::commit));
        freeBehind("commit() that answers -2", nodes(2).then(links(2)).then(changes(0, 242)).then(Face::done)
            .then(Face::begin).then(x -> x.take(LINK, 0)).then(x -> x.take(NODE, 1)).then(Face::commit));
        thereBehind("undo()", taken.then(Face::undo));
        thereBehind("begin()", taken.then(Face::begin));
        thereBehind("recover()", taken.then(Face::recover));
        thereBehind("rollback()", taken.then(Face::undo).then(Face::begin).then(x -> x.take(LINK, 0))
            .then(x -> x.take(NODE, 1)).then(Face::rollback));
        thereBehind("done() that is refused", nodes(2).then(links(2)).then(changes(0, 243)).then(Face::done)
            .then(x -> x.take(LINK, 0)).then(x -> x.take(NODE, 1)).thenRefused(Face::done));
        thereBehind("a power failure", taken.then(x -> x.cut(1)).thenRefused(Face::done).then(Face::recover));
        for (int n : new int[] {0, 1, 62, 63}) {
            Script away = nodes(64).then(Face::done).then(x -> x.take(NODE, n));
            error(6, "node() behind take(4, " + n + ")", away, Face::node);
            answers(n, "node() in the next STATEMENT", away.then(Face::done), Face::node);
        }
        for (int n : new int[] {0, 1, 94, 95}) {
            Script away = nodes(1).then(links(96)).then(Face::done).then(x -> x.take(LINK, n));
            error(6, "link() behind take(5, " + n + ")", away, x -> x.link(0, 0, 7));
            answers(n, "link() in the next STATEMENT", away.then(Face::done), x -> x.link(0, 0, 7));
        }
    }

    /** Here nothing comes back that would hide a number that is not free. */
    private void numbersMadeAndTakenAreFreeAgain() {
        due.part("a number made and taken away is free again behind the STATEMENT");
        Script one = nodes(1).then(Face::done);
        Script madeAndTaken = nodes(1).then(x -> x.take(NODE, 1)).then(links(1)).then(x -> x.take(LINK, 0));
        Script under = one.then(madeAndTaken);
        Script begun = one.then(Face::begin).then(madeAndTaken);
        answers(2, "node() in the same STATEMENT", under, Face::node);
        answers(1, "link() in the same STATEMENT", under, x -> x.link(0, 0, 7));
        freeBehind("done()", under.then(Face::done));
        freeBehind("undo()", under.then(Face::undo));
        freeBehind("begin()", under.then(Face::begin));
        freeBehind("recover()", under.then(Face::recover));
        freeBehind("done() in a TRANSACTION", begun.then(Face::done));
        freeBehind("undo() in a TRANSACTION", begun.then(Face::undo));
        freeBehind("commit()", begun.then(Face::commit));
        freeBehind("rollback()", begun.then(Face::rollback));
        freeBehind("recover() in a TRANSACTION", begun.then(Face::recover));
        freeBehind("done() that is refused", nodes(1).then(changes(0, 245)).then(Face::done).then(madeAndTaken)
            .thenRefused(Face::done));
        freeBehind("commit() that answers -2", nodes(1).then(changes(0, 245)).then(Face::done).then(Face::begin)
            .then(madeAndTaken).then(Face::commit));
        freeBehind("a power failure at done()", under.then(x -> x.cut(1)).thenRefused(Face::done).then(Face::recover));
        freeBehind("a power failure at commit()", begun.then(x -> x.cut(1)).thenRefused(Face::commit).then(Face::recover));
    }

    private void freeBehind(String what, Script before) {
        answers(1, "node() behind " + what, before, Face::node);
        answers(0, "link() behind " + what, before, x -> x.link(0, 0, 7));
    }

    private void thereBehind(String what, Script before) {
        answers(2, "node() behind " + what, before, Face::node);
        answers(2, "link() behind " + what, before, x -> x.link(0, 0, 7));
        answers(2, "another node() behind " + what, before.then(x -> x.take(NODE, 1)), Face::node);
    }

    private void takenAwayIsRefused() {
        due.part("A thing that is none, or was taken away, is refused");
        Script none = nodes(2).then(links(1)).then(Face::done);
        Script taken = nodes(3).then(links(2)).then(Face::done).then(x -> x.take(NODE, 2)).then(x -> x.take(LINK, 1));
        Script before = taken.then(Face::done);
        for (Script script : new Script[] {none, taken, before, taken.then(Face::done).then(Face::begin)}) {
            error(8, "label", script, x -> x.label(2, 1, true));
            error(8, "property of a NODE", script, x -> x.property(NODE, 2, 1, NUMBER, 1));
            error(8, "property of a LINK", script, x -> x.property(LINK, 1, 1, NUMBER, 1));
            error(8, "a PROPERTY of a LINK taken away", script, x -> x.property(LINK, 1, 1, AWAY, 1));
            error(8, "a text for a NODE", script.then(typed(3)), x -> x.property(NODE, 2, 1, TEXT, 1));
            error(8, "a link from it", script, x -> x.link(2, 0, 1));
            error(8, "a link to it", script, x -> x.link(0, 2, 1));
            error(8, "a NODE taken away", script, Ask.take(NODE, 2));
            error(8, "a LINK taken away", script, Ask.take(LINK, 1));
            leavesAll(-1, "thing(4, 2, 0)", script, x -> x.thing(NODE, 2, 0));
            leavesAll(-1, "thing(5, 1, 3)", script, x -> x.thing(LINK, 1, 3));
            leavesAll(-1, "chain(0, true, 1)", script, x -> x.chain(0, true, 1));
            leavesAll(-1, "chain(2, true, 0)", script, x -> x.chain(2, true, 0));
            leavesAll(false, "has(2, 1)", script, x -> x.has(2, 1));
            leavesAll(Due.NO_SUCH, "value(4, 2, 1, -1)", script, x -> x.value(NODE, 2, 1, -1));
            leavesAll(Due.NO_SUCH, "value(5, 1, 1, -1)", script, x -> x.value(LINK, 1, 1, -1));
        }
    }

    private void eachChangeCounts() {
        due.part("A CHANGE");
        Script some = SMALL.then(labels(2, 4)).then(properties(NODE, 2, 6)).then(properties(LINK, 0, 6)).then(Face::done);
        counts(1, "a NODE made", some, Face::node);
        counts(1, "a NODE taken away; its LABELS and PROPERTIES go with it", some, Ask.take(NODE, 2));
        Script again = some.then(x -> x.take(NODE, 2)).then(Face::done).then(nodes(1));
        answers(0, "its LABELS", again, x -> x.thing(NODE, 2, 1));
        answers(false, "its LABEL 1", again, x -> x.has(2, 1));
        answers(0, "its PROPERTIES", again, x -> x.thing(NODE, 2, 0));
        counts(1, "a LABEL put", some, x -> x.label(0, 1, true));
        counts(1, "a LABEL taken away", some, x -> x.label(2, 1, false));
        counts(1, "a PROPERTY put", some, x -> x.property(NODE, 0, 1, NUMBER, 1));
        counts(1, "another VALUE", some, x -> x.property(NODE, 2, 1, NUMBER, 9));
        counts(1, "a VALUE of another kind", some, x -> x.property(NODE, 2, 1, TRUTH, 1));
        counts(1, "a PROPERTY taken away", some, x -> x.property(NODE, 2, 1, AWAY, 1));
        counts(1, "a LINK made", some, x -> x.link(0, 1, 1));
        counts(1, "a LINK taken away, with its PROPERTIES", some, Ask.take(LINK, 0));
        Script put = some.then(x -> x.take(LINK, 0)).then(Face::done).then(x -> x.link(0, 2, 5));
        answers(0, "its PROPERTIES", put, x -> x.thing(LINK, 0, 0));
        counts(0, "what is refused", some, x -> x.label(9, 1, true));
    }

    private void counts(int wanted, String what, Script before, Ask ask) {
        answers(wanted, "CHANGES by " + what, before.thenRefused(ask), x -> x.state(6));
        answers(wanted, "done() behind " + what, before.thenRefused(ask), Face::done);
        answers(wanted, "undo() behind " + what, before.thenRefused(ask), Face::undo);
    }

    private void othersStay() {
        due.part("A CHANGE: a LABEL put or taken away; a PROPERTY put or taken away: the others stay");
        Script four = SMALL.then(labels(0, 4));
        Script six = SMALL.then(properties(NODE, 0, 6)).then(properties(LINK, 0, 6));
        for (int gone = 1; gone <= 6; gone++) {
            int key = gone;
            for (int other = 1; other <= 6; other++) {
                int one = other;
                if (gone <= 4) {
                    answers(one <= 4 && one != key, "has(0, " + one + ") without " + key,
                        four.then(x -> x.label(0, key, false)), x -> x.has(0, one));
                }
                for (int thing = NODE; thing <= LINK; thing++) {
                    int t = thing;
                    answers(one == key ? Due.NO_SUCH : one, "KEY " + one + " without " + key,
                        six.then(x -> x.property(t, 0, key, AWAY, 0)), x -> x.value(t, 0, one, -2));
                    answers(one == key ? 70 : one, "KEY " + one + " with another VALUE for " + key,
                        six.then(x -> x.property(t, 0, key, NUMBER, 70)), x -> x.value(t, 0, one, -2));
                }
            }
        }
        Script rich = four.then(properties(NODE, 0, 6)).then(properties(LINK, 0, 6));
        answers(4, "LABELS with another VALUE", rich.then(x -> x.property(NODE, 0, 1, TRUTH, 1)), x -> x.thing(NODE, 0, 1));
        answers(6, "PROPERTIES without a LABEL", rich.then(x -> x.label(0, 1, false)), x -> x.thing(NODE, 0, 0));
        answers(8, "TYPE with another VALUE", rich.then(x -> x.property(LINK, 0, 1, TRUTH, 1)), x -> x.thing(LINK, 0, 3));
        answers(1, "end with another VALUE", rich.then(x -> x.property(LINK, 0, 1, TRUTH, 1)), x -> x.thing(LINK, 0, 2));
        answers(0, "start without a PROPERTY", rich.then(x -> x.property(LINK, 0, 1, AWAY, 1)), x -> x.thing(LINK, 0, 1));
    }

    private void whatIsNoChange() {
        due.part("What leaves all as it is is none");
        Script some = SMALL.then(x -> {
            x.label(0, 1, true);
            x.property(NODE, 0, 1, TEXT, 0);
            x.property(NODE, 0, 2, NUMBER, 1);
            x.property(LINK, 0, 3, TRUTH, 1);
            x.property(NODE, 0, 4, TEXT, 0);
            x.done();
        });
        leavesAll(false, "a LABEL that is there", some, x -> x.label(0, 1, true));
        leavesAll(false, "a number that is the same", some, x -> x.property(NODE, 0, 2, NUMBER, 1));
        leavesAll(false, "a truth that is the same", some, x -> x.property(LINK, 0, 3, TRUTH, 1));
        leavesAll(false, "an empty text that is the same", some, x -> x.property(NODE, 0, 4, TEXT, 1));
        leavesAll(false, "a LABEL that is not there taken away", some, x -> x.label(0, 2, false));
        leavesAll(false, "a PROPERTY that is not there taken away", some, x -> x.property(NODE, 0, 9, AWAY, 1));
        leavesAll(false, "one of a LINK", some, x -> x.property(LINK, 0, 1, AWAY, 1));
        Ask text = x -> x.type(word("tape"), 4) + " " + x.property(NODE, 0, 1, TEXT, 0) + " " + x.state(6);
        answers("true false 0", "a text that is the same", some, text);
        Ask other = x -> x.type(word("tapf"), 4) + " " + x.property(NODE, 0, 1, TEXT, 0) + " " + x.state(6);
        answers("true true 1", "a text of as many characters", some, other);
        Ask first = x -> x.type(word("uape"), 4) + " " + x.property(NODE, 0, 1, TEXT, 0) + " " + x.state(6);
        answers("true true 1", "a text with another first character", some, first);
        Ask shorter = x -> x.type(word("tap"), 3) + " " + x.property(NODE, 0, 1, TEXT, 0) + " " + x.state(6);
        answers("true true 1", "a text of one less", some, shorter);
        Ask longer = x -> x.type(word("tapes"), 5) + " " + x.property(NODE, 0, 1, TEXT, 0) + " " + x.state(6);
        answers("true true 1", "a text of one more", some, longer);
        answers(true, "the number 1 as a truth", some, x -> x.property(NODE, 0, 2, TRUTH, 1));
        answers(true, "the truth 1 as a number", some, x -> x.property(LINK, 0, 3, NUMBER, 1));
        answers(true, "the number of the characters", some, x -> x.property(NODE, 0, 1, NUMBER, 4));
        answers(true, "the number 0 for an empty text", some, x -> x.property(NODE, 0, 4, NUMBER, 0));
    }

    private void noChangeIsNeverRefused() {
        due.part("What leaves all as it is is none, where a CHANGE would be refused");
        Script full = FULL.then(changes(1, 249 - FULL_CHANGES));
        answers(249, "CHANGES", full, x -> x.state(6));
        leavesAll(false, "a LABEL that is there", full, x -> x.label(0, 4, true));
        leavesAll(false, "a LABEL that is not there taken away", full, x -> x.label(0, 5, false));
        leavesAll(false, "a VALUE that is the same", full, x -> x.property(NODE, 0, 6, NUMBER, 6));
        leavesAll(false, "that of a LINK", full, x -> x.property(LINK, 0, 6, NUMBER, 6));
        leavesAll(false, "a PROPERTY that is not there taken away", full, x -> x.property(NODE, 0, 7, AWAY, 0));
    }

    private void at249() {
        due.part("A TRANSACTION has at most 249 CHANGES, also a STATEMENT without one");
        limit(Script.NOTHING);
        answers(249, "done()", nodes(1).then(changes(0, 248)), Face::done);
        states("done()", nodes(1).then(changes(0, 248)).then(Face::done), 1, 0, 250, 250, 0, 0, 0);
        answers(249, "undo()", nodes(1).then(changes(0, 248)), Face::undo);
        answers(1, "node() in the next STATEMENT", nodes(1).then(changes(0, 248)).then(Face::done), Face::node);
    }

    private void at249InTransaction() {
        due.part("A TRANSACTION has at most 249 CHANGES");
        Script begun = x -> x.begin();
        limit(begun);
        Script far = begun.then(nodes(1)).then(changes(0, 200)).then(Face::done).then(changes(0, 48));
        error(9, "the 250th, of two STATEMENTS", far, Face::node);
        error(9, "the 250th, the first of its STATEMENT", far.then(Face::done), Face::node);
        answers(250, "commit()", far, Face::commit);
        answers(1, "node() in the next TRANSACTION", far.then(Face::commit).then(Face::begin), Face::node);
    }

    private void limit(Script begun) {
        Script at247 = begun.then(nodes(2)).then(links(1)).then(changes(0, 244));
        for (int count = 247; count <= 248; count++) {
            Script before = count == 247 ? at247 : at247.then(nodes(1));
            answers(count, "CHANGES", before, x -> x.state(6));
            answers(count - 245, "node()", before, Face::node);
            answers(true, "label", before, x -> x.label(1, 1, true));
            answers(true, "property", before, x -> x.property(NODE, 1, 1, NUMBER, 1));
            answers(1, "link", before, x -> x.link(0, 0, 1));
            answers("void", "take a NODE", before, Ask.take(NODE, 1));
            answers("void", "take a LINK", before, Ask.take(LINK, 0));
        }
        Script at249 = at247.then(x -> x.label(1, 1, true)).then(x -> x.property(NODE, 1, 1, NUMBER, 1));
        answers(249, "CHANGES", at249, x -> x.state(6));
        error(9, "node()", at249, Face::node);
        error(9, "a LABEL put", at249, x -> x.label(1, 2, true));
        error(9, "a LABEL taken away", at249, x -> x.label(1, 1, false));
        error(9, "a PROPERTY put", at249, x -> x.property(NODE, 1, 2, NUMBER, 1));
        error(9, "another VALUE", at249, x -> x.property(NODE, 1, 1, NUMBER, 2));
        error(9, "a PROPERTY taken away", at249, x -> x.property(NODE, 1, 1, AWAY, 1));
        error(9, "a PROPERTY of a LINK", at249, x -> x.property(LINK, 0, 1, TRUTH, 1));
        error(9, "link", at249, x -> x.link(0, 0, 1));
        error(9, "take a NODE", at249, Ask.take(NODE, 1));
        error(9, "take a LINK", at249, Ask.take(LINK, 0));
        error(9, "node() again", at249.thenRefused(Face::node), Face::node);
    }

    private void undoneChangesDoNotCount() {
        due.part("A TRANSACTION has at most 249 CHANGES: what was undone is none of them");
        Script undone = nodes(1).then(Face::done).then(Face::begin).then(changes(0, 200)).then(Face::done)
            .then(x -> x.label(0, 1, true)).then(nodes(40)).then(Face::undo);
        answers(200, "CHANGES", undone, x -> x.state(6));
        Script at248 = undone.then(changes(0, 48));
        answers(1, "the 249th", at248, Face::node);
        error(9, "the 250th", at248.then(nodes(1)), Face::node);
    }

    private void error2() {
        due.part("ERROR 2: a kind of VALUE that is none, or a truth but 1 and 0");
        for (int kind : new int[] {LEAST, -2, -1, 4, 5, 6, MOST}) {
            error(2, "kind " + kind, SMALL, x -> x.property(NODE, 0, 1, kind, 1));
            error(2, "kind " + kind + " of a LINK", SMALL, x -> x.property(LINK, 0, 1, kind, 0));
        }
        for (int kind = 0; kind <= 3; kind++) {
            int k = kind;
            answers(k != 0, "kind " + k, SMALL, x -> x.property(NODE, 0, 1, k, 1));
        }
        error(2, "truth 2 for one that is there", SMALL.then(x -> x.property(NODE, 0, 1, TRUTH, 1)),
            x -> x.property(NODE, 0, 1, TRUTH, 2));
        answers(true, "a number but 1 and 0", SMALL, x -> x.property(NODE, 0, 1, NUMBER, 2));
        answers(true, "a text with a v but 1 and 0", SMALL, x -> x.property(NODE, 0, 1, TEXT, 2));
        answers(false, "kind 0 with a v but 1 and 0", SMALL, x -> x.property(NODE, 0, 1, AWAY, 2));
    }

    private void error6() {
        due.part("ERROR 6: a NODE, LINK, LABEL or PROPERTY too many");
        for (Script before : new Script[] {FULL, FULL.then(Face::done), FULL.then(Face::done).then(Face::begin)}) {
            error(6, "a NODE", before, Face::node);
            error(6, "a LINK", before, x -> x.link(0, 1, 1));
            error(6, "a LABEL", before, x -> x.label(0, 5, true));
            error(6, "a PROPERTY of a NODE", before, x -> x.property(NODE, 0, 7, NUMBER, 7));
            error(6, "a PROPERTY of a LINK", before, x -> x.property(LINK, 0, 7, NUMBER, 7));
        }
        Script less = FULL.then(x -> x.take(LINK, 95)).then(x -> x.take(NODE, 63)).then(x -> x.label(0, 4, false))
            .then(x -> x.property(NODE, 0, 6, AWAY, 0)).then(Face::done);
        answers(63, "a NODE again", less, Face::node);
        answers(95, "a LINK again", less, x -> x.link(0, 1, 1));
        answers(true, "a LABEL again", less, x -> x.label(0, 5, true));
        answers(true, "a PROPERTY again", less, x -> x.property(NODE, 0, 7, NUMBER, 7));
    }

    private void error7() {
        due.part("ERROR 7: a NODE that has LINKS");
        Script some = nodes(4).then(x -> x.link(0, 1, 1)).then(x -> x.link(2, 2, 1));
        error(7, "one that starts there", some, Ask.take(NODE, 0));
        error(7, "one that ends there", some, Ask.take(NODE, 1));
        error(7, "one to itself", some, Ask.take(NODE, 2));
        answers("void", "none", some, Ask.take(NODE, 3));
        Script two = some.then(x -> x.link(1, 0, 1));
        Script one = two.then(x -> x.take(LINK, 0));
        error(7, "one of two is left", one, Ask.take(NODE, 0));
        answers("void", "none is left", one.then(x -> x.take(LINK, 2)), Ask.take(NODE, 0));
        error(7, "the LINK is there again behind undo()", some.then(Face::done).then(x -> x.take(LINK, 0)).then(Face::undo),
            Ask.take(NODE, 0));
        error(7, "the LINK is there behind recover()", some.then(Face::done).then(Face::recover), Ask.take(NODE, 0));
        answers("void", "the LINK is gone behind undo()", nodes(1).then(Face::done).then(links(1)).then(Face::undo),
            Ask.take(NODE, 0));
    }

    private void error8() {
        due.part("ERROR 8: no such thing");
        error(8, "label on an empty graph", Script.NOTHING, x -> x.label(0, 1, true));
        error(8, "property on an empty graph", Script.NOTHING, x -> x.property(NODE, 0, 1, NUMBER, 1));
        error(8, "link on an empty graph", Script.NOTHING, x -> x.link(0, 0, 1));
        error(8, "take on an empty graph", Script.NOTHING, Ask.take(NODE, 0));
        error(8, "take a LINK on an empty graph", Script.NOTHING, Ask.take(LINK, 0));
        for (int count = 1; count <= 3; count++) {
            int n = count;
            answers(true, "label at the last NODE", nodes(n), x -> x.label(n - 1, 1, true));
            error(8, "label at one behind it", nodes(n), x -> x.label(n, 1, true));
        }
    }

    private void error9() {
        due.part("ERROR 9: the 250th CHANGE, or (done()) no room in the LOG");
        Script told = nodes(1).then(changes(0, 247)).then(Face::done);
        answers(249, "in the LOG", told, x -> x.state(3));
        Script more = told.then(nodes(1));
        answers(Due.ERROR, "done()", more, Face::done);
        answers(9, "error()", more.thenRefused(Face::done), Face::error);
        Script at249 = nodes(1).then(changes(0, 248));
        answers(9, "error()", at249.thenRefused(Face::node), Face::error);
        answers(0, "error() of what was refused for no room in a TRANSACTION",
            told.then(Face::begin).then(nodes(1)).then(Face::commit), Face::error);
    }

    private void orderOfErrors() {
        due.part("The first one in this order: 8, 2, 7, 6, 9");
        Script at249 = nodes(2).then(x -> x.link(0, 0, 1)).then(labels(0, 4)).then(properties(NODE, 0, 6))
            .then(properties(LINK, 0, 6)).then(changes(1, 230));
        answers(249, "CHANGES", at249, x -> x.state(6));
        error(8, "8 ahead of 2 and 9", at249, x -> x.property(NODE, 2, 1, 4, 0));
        error(8, "8 ahead of 2: a truth", SMALL, x -> x.property(NODE, 3, 1, TRUTH, 2));
        error(8, "8 ahead of 2: no kind of thing", SMALL, x -> x.property(6, 0, 1, -1, 2));
        error(8, "8 ahead of 9: take", at249, Ask.take(NODE, 2));
        error(8, "8 ahead of 9: label", at249, x -> x.label(2, 1, true));
        error(8, "8 ahead of 9: link", at249, x -> x.link(0, 2, 1));
        error(2, "2 ahead of 6 and 9", at249, x -> x.property(NODE, 0, 7, 4, 0));
        error(2, "2 ahead of 6 and 9: a truth", at249, x -> x.property(LINK, 0, 7, TRUTH, 2));
        error(2, "2 ahead of 9", at249, x -> x.property(NODE, 1, 1, -1, 0));
        error(7, "7 ahead of 9", at249, Ask.take(NODE, 0));
        error(9, "9 without 7", at249, Ask.take(NODE, 1));
        error(6, "6 ahead of 9: a LABEL", at249, x -> x.label(0, 5, true));
        error(6, "6 ahead of 9: a PROPERTY", at249, x -> x.property(NODE, 0, 7, NUMBER, 0));
        error(6, "6 ahead of 9: one of a LINK", at249, x -> x.property(LINK, 0, 7, NUMBER, 0));
        error(9, "9 without 6: another VALUE", at249, x -> x.property(NODE, 0, 6, NUMBER, 0));
        error(9, "9 without 6: a LABEL", at249, x -> x.label(1, 5, true));
        Script full = FULL.then(changes(1, 249 - FULL_CHANGES));
        error(8, "8 ahead of 6 and 9: a LINK", full, x -> x.link(0, 64, 1));
        error(6, "6 ahead of 9: a NODE", full, Face::node);
        error(6, "6 ahead of 9: a LINK", full, x -> x.link(0, 1, 1));
        error(8, "8 ahead of 6: a LINK", FULL, x -> x.link(-1, 0, 1));
    }

    private void errorOfDone() {
        due.part("by that of done() all of the STATEMENT is undone");
        Script kept = SMALL.then(labels(2, 2)).then(properties(LINK, 0, 2)).then(changes(0, 236)).then(Face::done);
        answers(246, "in the LOG", kept, x -> x.state(3));
        Script more = kept.then(x -> {
            x.take(LINK, 0);
            x.label(2, 1, false);
            x.node();
            x.property(NODE, 2, 1, NUMBER, 1);
        });
        answers(Due.ERROR, "done()", more, Face::done);
        answers(9, "error()", more.thenRefused(Face::done), Face::error);
        same("done() that is refused", Witness.ALL, more.thenRefused(Face::done), kept);
        same("undo()", Witness.ALL, more.then(Face::undo), kept);
    }

    private void beginUndoes() {
        due.part("A TRANSACTION begins with begin() (a STATEMENT under way is undone ahead of it)");
        Script kept = SMALL.then(Face::done);
        Script some = kept.then(x -> x.take(LINK, 1)).then(nodes(1)).then(labels(0, 2));
        answers(true, "begin()", some, Face::begin);
        same("begin()", Witness.ALL, some.then(Face::begin), kept.then(Face::begin));
        states("begin()", some.then(Face::begin), 3, 2, 6, 6, 0, 1, 0);
    }

    private void transactionEnds() {
        due.part("and ends with commit() or rollback()");
        Script begun = SMALL.then(Face::done).then(Face::begin).then(labels(0, 2)).then(Face::done).then(nodes(1));
        answers(1, "ahead", begun, x -> x.state(5));
        answers(1, "behind done()", begun.then(Face::done), x -> x.state(5));
        answers(1, "behind undo()", begun.then(Face::undo), x -> x.state(5));
        answers(1, "behind an ERROR", begun.thenRefused(x -> x.label(9, 1, true)), x -> x.state(5));
        answers(1, "behind begin()", begun.then(Face::begin), x -> x.state(5));
        answers(1, "behind checkpoint()", begun.then(Face::checkpoint), x -> x.state(5));
        answers(0, "behind commit()", begun.then(Face::commit), x -> x.state(5));
        answers(0, "behind rollback()", begun.then(Face::rollback), x -> x.state(5));
    }

    private void eachStatementIsOne() {
        due.part("without one each STATEMENT is one");
        Script two = nodes(1).then(Face::done).then(nodes(2)).then(Face::done);
        answers(2, "TRANSACTIONS", two, Face::recover);
        answers(5, "in the LOG", two, x -> x.state(3));
        Script one = x -> x.begin();
        answers(1, "TRANSACTIONS", one.then(two).then(Face::commit), Face::recover);
        answers(4, "in the LOG", one.then(two).then(Face::commit), x -> x.state(3));
    }

    private void oneWriteForEachChange() {
        due.part("each by one WRITE, and one more for its END; nothing if there are none");
        for (int count : new int[] {0, 1, 2, 3, 64}) {
            int writes = count == 0 ? 0 : count + 1;
            states("done() of " + count, nodes(count).then(Face::done), count, 0, writes, writes);
            Script begun = x -> x.begin();
            states(count + " CHANGES ahead of commit()", begun.then(nodes(count)).then(Face::done), count, 0, 0, 0);
            answers(writes, "commit() of " + count, begun.then(nodes(count)), Face::commit);
            states("commit() of " + count, begun.then(nodes(count)).then(Face::commit), count, 0, writes, writes);
            states("rollback() of " + count, begun.then(nodes(count)).then(Face::rollback), 0, 0, 0, 0);
            states("undo() of " + count, nodes(count).then(Face::undo), 0, 0, 0, 0);
        }
        states("done() of what is no CHANGE", nodes(1).then(Face::done).then(x -> x.label(0, 1, false)).then(Face::done),
            1, 0, 2, 2);
    }

    private void logHas250() {
        due.part("THE LOG has room for 250, with ENDS");
        for (int count = 245; count <= 250; count++) {
            Script before = nodes(1).then(changes(0, count - 2)).then(Face::done);
            int inLog = count;
            answers(count, "in the LOG", before, x -> x.state(3));
            for (int more = 1; more <= 5; more++) {
                Script under = before.then(nodes(more));
                boolean fits = inLog + more + 1 <= 250;
                String what = "done() of " + more + " behind " + inLog;
                answers(fits ? more : Due.ERROR, what, under, Face::done);
                int behind = fits ? inLog + more + 1 : inLog;
                states(what, under.thenRefused(Face::done), fits ? 1 + more : 1, 0, behind, behind, 0, 0, 0);
            }
            answers(0, "done() of nothing behind " + inLog, before, Face::done);
        }
        states("1 for 250", nodes(1).then(changes(0, 248)).then(Face::done), 1, 0, 250, 250);
        Script full = nodes(1).then(changes(0, 248)).then(Face::done);
        same("done() of nothing", Witness.ALL, full.then(Face::done), full);
        states("a CHECKPOINT makes room", full.then(Face::checkpoint).then(nodes(1)).then(Face::done), 2, 0, 254, 2);
    }

    private void logHas250InTransaction() {
        due.part("THE LOG has room for 250, with ENDS: commit()");
        for (int count = 246; count <= 250; count++) {
            int inLog = count;
            Script before = nodes(1).then(changes(0, count - 2)).then(Face::done).then(Face::begin);
            for (int more = 1; more <= 4; more++) {
                Script under = before.then(nodes(more));
                boolean fits = inLog + more + 1 <= 250;
                String what = "commit() of " + more + " behind " + inLog;
                answers(fits ? more + 1 : -2, what, under, Face::commit);
                int behind = fits ? inLog + more + 1 : inLog;
                states(what, under.then(Face::commit), 1 + more, 0, behind, behind, 0, fits ? 0 : 1, fits ? 0 : more);
            }
            answers(0, "commit() of nothing behind " + inLog, before, Face::commit);
        }
    }

    private void checkpointWrites() {
        due.part("A CHECKPOINT is one WRITE for each thing, and one; then the LOG is empty");
        int[][] sizes = {{0, 0}, {1, 0}, {1, 1}, {2, 1}, {64, 0}, {64, 95}, {64, 96}};
        for (int[] size : sizes) {
            Script before = nodes(size[0]).then(links(size[1])).then(Face::done);
            int inLog = size[0] == 0 ? 0 : size[0] + size[1] + 1;
            int writes = size[0] + size[1] + 1;
            answers(writes, "checkpoint() of " + writes, before, Face::checkpoint);
            answers(inLog, "LOG ahead of it", before, x -> x.state(3));
            states("it", before.then(Face::checkpoint), size[0], size[1], inLog + writes, 0, 0, 0, 0);
            answers(0, "TRANSACTIONS behind it", before.then(Face::checkpoint), Face::recover);
            answers(Witness.seen(at(before.then(Face::checkpoint))), "the graph recovered",
                before.then(Face::checkpoint).then(Face::recover), Witness::seen);
        }
        Script rich = SMALL.then(labels(0, 4)).then(properties(NODE, 0, 6)).then(Face::done);
        answers(6, "LABELS and PROPERTIES are no things", rich, Face::checkpoint);
    }

    private void powerFailsAtLog() {
        due.part("THE POWER fails at a WRITE that was told: that one and those behind it are not written");
        Script kept = SMALL.then(Face::done);
        Script begun = kept.then(Face::begin);
        for (int n = 1; n <= 6; n++) {
            int told = n;
            boolean fails = n <= 4;
            int written = fails ? n - 1 : 4;
            Script done = kept.then(nodes(3)).then(x -> x.cut(told));
            answers(fails ? Due.OFF : 3, "done() with cut(" + n + ")", done, Face::done);
            states("done() with cut(" + n + ")", done.thenRefused(Face::done),
                fails ? 0 : 6, fails ? 0 : 2, 6 + written, 6 + written, fails ? 1 : 0, 0, 0);
            Script commit = begun.then(nodes(2)).then(Face::done).then(nodes(1)).then(x -> x.cut(told));
            answers(fails ? Due.OFF : 4, "commit() with cut(" + n + ")", commit, Face::commit);
            states("commit() with cut(" + n + ")", commit.thenRefused(Face::commit),
                fails ? 0 : 6, fails ? 0 : 2, 6 + written, 6 + written, fails ? 1 : 0, 0, 0);
            answers(fails ? 1 : 2, "recover()", done.thenRefused(Face::done), Face::recover);
            answers(fails ? 1 : 2, "recover()", commit.thenRefused(Face::commit), Face::recover);
        }
    }

    private void powerFailsAtCheckpoint() {
        due.part("THE POWER fails at a WRITE that was told, of a CHECKPOINT");
        Script kept = nodes(2).then(Face::done).then(Face::checkpoint).then(links(1)).then(Face::done);
        for (int n = 1; n <= 6; n++) {
            int told = n;
            boolean fails = n <= 4;
            Script script = kept.then(x -> x.cut(told));
            answers(fails ? Due.OFF : 4, "checkpoint() with cut(" + n + ")", script, Face::checkpoint);
            states("checkpoint() with cut(" + n + ")", script.thenRefused(Face::checkpoint),
                fails ? 0 : 2, fails ? 0 : 1, 8 + (fails ? n - 1 : 4), fails ? 2 : 0, fails ? 1 : 0, 0, 0);
            answers(fails ? 1 : 0, "recover()", script.thenRefused(Face::checkpoint), Face::recover);
            states("recover()", script.thenRefused(Face::checkpoint).then(Face::recover),
                2, 1, 8 + (fails ? n - 1 : 4), fails ? 2 : 0, 0, 0, 0);
        }
    }

    private void offHasNoGraph() {
        due.part("the house is OFF, and has no graph");
        Script kept = SMALL.then(labels(0, 1)).then(properties(NODE, 0, 1)).then(properties(LINK, 0, 1)).then(Face::done)
            .then(x -> x.cut(1));
        Script[] scripts = {
            kept.then(nodes(1)).thenRefused(Face::done),
            kept.thenRefused(Face::checkpoint),
            kept.then(Face::begin).then(nodes(1)).thenRefused(Face::commit),
        };
        for (Script off : scripts) {
            answers(1, "OFF", off, x -> x.state(4));
            leavesAll(0, "NODES", off, x -> x.state(0));
            leavesAll(0, "LINKS", off, x -> x.state(1));
            for (int what = 0; what <= 3; what++) {
                int w = what;
                leavesAll(-1, "thing(4, 0, " + w + ")", off, x -> x.thing(NODE, 0, w));
                leavesAll(-1, "thing(5, 0, " + w + ")", off, x -> x.thing(LINK, 0, w));
            }
            leavesAll(-1, "chain(0, true, 0)", off, x -> x.chain(0, true, 0));
            leavesAll(-1, "chain(1, false, 0)", off, x -> x.chain(1, false, 0));
            leavesAll(false, "has(0, 1)", off, x -> x.has(0, 1));
            for (int what = -2; what <= 0; what++) {
                int w = what;
                leavesAll(Due.NO_SUCH, "value(4, 0, 1, " + w + ")", off, x -> x.value(NODE, 0, 1, w));
                leavesAll(Due.NO_SUCH, "value(5, 0, 1, " + w + ")", off, x -> x.value(LINK, 0, 1, w));
            }
        }
    }

    private void recovered() {
        due.part("RECOVERED: the latest CHECKPOINT that was written whole, with the TRANSACTIONS whose END is in the LOG");
        Script first = SMALL.then(labels(0, 2)).then(properties(NODE, 0, 2)).then(Face::done).then(Face::checkpoint);
        Script kept = first.then(x -> {
            x.take(LINK, 0);
            x.take(NODE, 0);
            x.property(LINK, 1, 1, TRUTH, 1);
            x.label(1, 5, true);
            x.done();
            x.node();
            x.property(NODE, 1, 1, TEXT, 0);
            x.done();
        });
        String graph = Witness.seen(at(kept)).replaceFirst("states [^,]*", "");
        Script[] scripts = {
            kept,
            kept.then(x -> x.cut(1)).thenRefused(Face::checkpoint),
            kept.then(x -> x.cut(4)).thenRefused(Face::checkpoint),
            kept.then(x -> x.cut(3)).then(x -> x.take(NODE, 2)).then(nodes(1)).thenRefused(Face::done),
            kept.then(Face::begin).then(nodes(3)).then(Face::done).then(x -> x.cut(4)).thenRefused(Face::commit),
            kept.then(nodes(3)),
            kept.then(Face::begin).then(nodes(3)).then(Face::done).then(labels(1, 2)),
        };
        for (Script script : scripts) {
            answers(2, "TRANSACTIONS", script, Face::recover);
            answers(graph, "the graph", script.then(Face::recover), x -> Witness.seen(x).replaceFirst("states [^,]*", ""));
        }
        Script whole = kept.then(x -> x.cut(6)).then(Face::checkpoint);
        answers(0, "TRANSACTIONS behind a whole CHECKPOINT", whole, Face::recover);
        answers(graph, "the graph", whole.then(Face::recover), x -> Witness.seen(x).replaceFirst("states [^,]*", ""));
    }

    private void withoutEndIsDropped() {
        due.part("what lies there without END is dropped");
        Script kept = nodes(2).then(Face::done);
        for (int n = 1; n <= 3; n++) {
            int told = n;
            Script off = kept.then(nodes(2)).then(x -> x.cut(told)).thenRefused(Face::done);
            answers(3 + n - 1, "LOG while OFF", off, x -> x.state(3));
            answers(3, "LOG recovered", off.then(Face::recover), x -> x.state(3));
            answers(3, "LOG recovered again", off.then(Face::recover).then(Face::recover), x -> x.state(3));
            states("a TRANSACTION behind it", off.then(Face::recover).then(nodes(1)).then(Face::done),
                3, 0, 3 + n - 1 + 2, 5);
            answers(2, "recover() behind that", off.then(Face::recover).then(nodes(1)).then(Face::done), Face::recover);
        }
        Script nearlyFull = nodes(1).then(changes(0, 246)).then(Face::done);
        answers(248, "LOG", nearlyFull, x -> x.state(3));
        Script off = nearlyFull.then(nodes(1)).then(x -> x.cut(2)).thenRefused(Face::done);
        answers(249, "LOG while OFF", off, x -> x.state(3));
        answers(1, "there is room again for as much", off.then(Face::recover).then(nodes(1)), Face::done);
    }
}
