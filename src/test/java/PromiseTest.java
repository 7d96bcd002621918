/** Each promise of the document, in runs as they may come: ordinary inputs, and wrong ones among them. */
public final class PromiseTest extends Bench {
    private PromiseTest() {
        super("PromiseTest");
    }

    public static void main(String[] args) {
        PromiseTest test = new PromiseTest();
        test.newObject();
        test.typeGoesToTheTape();
        test.typeRefuses();
        test.nodeNumbers();
        test.nodeTooMany();
        test.label();
        test.labelLimits();
        test.propertyKinds();
        test.propertyRefuses();
        test.propertyLimits();
        test.propertyAndTheTape();
        test.link();
        test.linkTooMany();
        test.take();
        test.takeNumbers();
        test.changeLimit();
        test.changeLimitInTransaction();
        test.errorOrder();
        test.errorStays();
        test.done();
        test.doneWithoutRoom();
        test.donePowerFails();
        test.undo();
        test.undoRestoresAll();
        test.begin();
        test.commit();
        test.commitWithoutRoom();
        test.commitPowerFails();
        test.rollback();
        test.checkpoint();
        test.checkpointPowerFails();
        test.cut();
        test.recoverFromOff();
        test.recoverWhileOn();
        test.recoverCounts();
        test.whileOff();
        test.thing();
        test.chain();
        test.has();
        test.value();
        test.state();
        test.due.end();
    }

    private static Real withNodes(int count) {
        return at(nodes(count));
    }

    private static Real kept(int count) {
        Real x = withNodes(count);
        x.done();
        return x;
    }

    /** Makes so many CHANGES at a NODE, by one LABEL that comes and goes. */
    private static void change(Real x, int n, int count) {
        boolean on = x.has(n, 99);
        for (int i = 0; i < count; i++) {
            on = !on;
            x.label(n, 99, on);
        }
    }

    private static Real switchedOff() {
        Real x = kept(2);
        x.cut(1);
        x.node();
        Due.answer(x::done);
        return x;
    }

    private void states(Real x, int... wanted) {
        for (int what = 0; what < wanted.length; what++) {
            due.is("state(" + what + ")", x.state(what), wanted[what]);
        }
    }

    private void error(Real x, int wanted, String what, Due.Call call) {
        int changes = x.state(6);
        due.call(what, Due.ERROR, call);
        due.is("error() behind " + what, x.error(), wanted);
        due.is("state(6) behind " + what, x.state(6), changes);
    }

    private void takeError(Real x, int wanted, String what, int thing, int n) {
        error(x, wanted, what, () -> {
            x.take(thing, n);
            return "void";
        });
    }

    private void newObject() {
        due.part("promise 1");
        Real x = new Real();
        due.is("NONE", GraphKeep.NONE, -1);
        states(x, 0, 0, 0, 0, 0, 0, 0);
        due.is("error()", x.error(), 0);
        due.is("thing(4, 0, 0)", x.thing(NODE, 0, 0), -1);
        due.is("thing(5, 0, 0)", x.thing(LINK, 0, 0), -1);
        due.is("recover()", x.recover(), 0);
        due.call("done()", 0, x::done);
        due.call("undo()", 0, x::undo);
        due.call("commit()", -1, x::commit);
        due.call("rollback()", false, x::rollback);
        due.call("checkpoint()", 1, x::checkpoint);
        due.call("node()", 0, x::node);
        due.call("an empty tape", true, () -> x.property(NODE, 0, 1, TEXT, 9));
        due.call("length", 0, () -> x.value(NODE, 0, 1, -2));
        Real y = new Real();
        states(y, 0, 0, 0, 0, 0, 0, 0);
    }

    private void typeGoesToTheTape() {
        due.part("promise 2");
        Real x = withNodes(1);
        due.is("type(A)", x.type('A', 1), true);
        due.is("type(bcdefghi)", x.type(word("bcdefghi"), 8), true);
        due.is("type(..xyz, 2): the lowest two", x.type(word("xyz"), 2), true);
        due.is("type: bytes above do not count", x.type(0xff00ff0000000020L, 1), true);
        due.is("type(~)", x.type(126, 1), true);
        x.property(NODE, 0, 1, TEXT, 0);
        String text = "Abcdefghiyz ~";
        due.is("length", x.value(NODE, 0, 1, -2), text.length());
        for (int i = 0; i < text.length(); i++) {
            due.is("character " + i, x.value(NODE, 0, 1, i), (int) text.charAt(i));
        }
    }

    private void typeRefuses() {
        due.part("promise 2, refused");
        Real x = withNodes(1);
        long ab = word("abababab");
        for (int n : new int[] {0, -1, 9, 16, Integer.MIN_VALUE, Integer.MAX_VALUE}) {
            due.is("type(.., " + n + ")", x.type(ab, n), false);
        }
        for (int bad : new int[] {0, 31, 127, 128, 160, 255}) {
            due.is("type with " + bad, x.type(bad, 1), false);
            due.is("type with a good one ahead of " + bad, x.type('a' << 8 | bad, 2), false);
            due.is("type with a good one behind " + bad, x.type((long) bad << 56 | ab >>> 8, 8), false);
        }
        for (int i = 0; i < 5; i++) {
            due.is("type(.., 4)", x.type(ab, 4), true);
        }
        due.is("20 and 5", x.type(ab, 5), false);
        due.is("20 and 3", x.type(ab, 3), true);
        due.is("23 and 2", x.type(ab, 2), false);
        due.is("23 and 1", x.type('c', 1), true);
        due.is("24 and 1", x.type('d', 1), false);
        x.property(NODE, 0, 1, TEXT, 0);
        due.is("length", x.value(NODE, 0, 1, -2), 24);
        due.is("last", x.value(NODE, 0, 1, 23), (int) 'c');
        due.is("an empty tape again", x.type(ab, 8), true);
    }

    private void nodeNumbers() {
        due.part("promise 3");
        Real x = kept(3);
        x.take(NODE, 1);
        due.call("node(): 1 was taken away in this STATEMENT", 3, x::node);
        x.done();
        due.call("node(): 1 is free now", 1, x::node);
        due.call("node()", 4, x::node);
        x.take(NODE, 4);
        due.call("node(): 4, made and taken away in this STATEMENT", 5, x::node);
        due.is("NODES", x.state(0), 5);
        x.undo();
        due.call("node() behind undo()", 1, x::node);
        x.undo();
        x.begin();
        x.take(NODE, 0);
        due.call("node()", 1, x::node);
        x.done();
        due.call("node() in the next STATEMENT of a TRANSACTION", 0, x::node);
        x.take(NODE, 2);
        x.rollback();
        due.call("node() behind rollback()", 1, x::node);
        x.take(NODE, 0);
        x.recover();
        due.call("node() behind recover()", 1, x::node);
        x.take(NODE, 0);
        x.begin();
        due.call("node() behind begin()", 1, x::node);
        due.is("a new NODE has no LABELS", x.thing(NODE, 1, 1), 0);
        due.is("a new NODE has no PROPERTIES", x.thing(NODE, 1, 0), 0);
    }

    private void nodeTooMany() {
        due.part("promise 3, too many");
        Real x = withNodes(63);
        due.call("the 64th", 63, x::node);
        error(x, 6, "the 65th", x::node);
        due.is("NODES", x.state(0), 64);
        x.take(NODE, 20);
        error(x, 6, "node(): no number but that of one taken away", x::node);
        x.done();
        due.call("node()", 20, x::node);
    }

    private void label() {
        due.part("promise 4");
        Real x = withNodes(2);
        int[] labels = {Integer.MIN_VALUE, 0, -1, Integer.MAX_VALUE};
        for (int label : labels) {
            due.call("label on", true, () -> x.label(0, label, true));
            due.call("label on again", false, () -> x.label(0, label, true));
        }
        due.is("LABELS", x.thing(NODE, 0, 1), 4);
        due.is("LABELS of another", x.thing(NODE, 1, 1), 0);
        due.is("CHANGES", x.state(6), 6);
        due.call("label off", true, () -> x.label(0, -1, false));
        due.call("label off again", false, () -> x.label(0, -1, false));
        for (int label : labels) {
            due.is("has(0, " + label + ")", x.has(0, label), label != -1);
        }
        due.is("LABELS", x.thing(NODE, 0, 1), 3);
        due.is("CHANGES", x.state(6), 7);
        for (int n : new int[] {2, -1, 63, 64, Integer.MIN_VALUE, Integer.MAX_VALUE}) {
            error(x, 8, "label on at " + n, () -> x.label(n, 1, true));
            error(x, 8, "label off at " + n, () -> x.label(n, 1, false));
        }
        x.take(NODE, 1);
        error(x, 8, "label at a NODE taken away", () -> x.label(1, 1, true));
    }

    private void labelLimits() {
        due.part("promise 4, too many");
        Real x = withNodes(1);
        for (int label = 1; label <= 4; label++) {
            x.label(0, label, true);
        }
        error(x, 6, "the 5th LABEL", () -> x.label(0, 5, true));
        due.is("has(0, 5)", x.has(0, 5), false);
        due.call("one that is there", false, () -> x.label(0, 4, true));
        due.call("what is not there taken away", false, () -> x.label(0, 5, false));
        due.call("taken away", true, () -> x.label(0, 1, false));
        due.call("there is room again", true, () -> x.label(0, 5, true));
        due.is("LABELS", x.thing(NODE, 0, 1), 4);
    }

    private void propertyKinds() {
        due.part("promise 5");
        Real x = withNodes(2);
        x.link(0, 1, 7);
        for (int thing = NODE; thing <= LINK; thing++) {
            int t = thing;
            due.call("a number", true, () -> x.property(t, 0, -5, NUMBER, Long.MIN_VALUE));
            due.call("the same", false, () -> x.property(t, 0, -5, NUMBER, Long.MIN_VALUE));
            due.is("number", x.value(t, 0, -5, -2), Long.MIN_VALUE);
            due.call("another", true, () -> x.property(t, 0, -5, NUMBER, 1));
            due.call("a truth of the same number", true, () -> x.property(t, 0, -5, TRUTH, 1));
            due.is("kind", x.value(t, 0, -5, -1), 2);
            due.call("the same truth", false, () -> x.property(t, 0, -5, TRUTH, 1));
            due.call("the other truth", true, () -> x.property(t, 0, -5, TRUTH, 0));
            due.is("truth", x.value(t, 0, -5, -2), 0);
            x.type(word("abc"), 3);
            due.call("a text", true, () -> x.property(t, 0, -5, TEXT, 0));
            x.type(word("abc"), 3);
            due.call("the same text", false, () -> x.property(t, 0, -5, TEXT, 8));
            x.type(word("abd"), 3);
            due.call("another text", true, () -> x.property(t, 0, -5, TEXT, 0));
            x.type(word("xbd"), 3);
            due.call("one with another first character", true, () -> x.property(t, 0, -5, TEXT, 0));
            due.call("an empty text", true, () -> x.property(t, 0, -5, TEXT, 0));
            due.call("an empty text again", false, () -> x.property(t, 0, -5, TEXT, 0));
            due.call("the number 0", true, () -> x.property(t, 0, -5, NUMBER, 0));
            due.is("PROPERTIES", x.thing(t, 0, 0), 1);
            due.call("taken away", true, () -> x.property(t, 0, -5, AWAY, 77));
            due.call("taken away again", false, () -> x.property(t, 0, -5, AWAY, 77));
            due.is("PROPERTIES", x.thing(t, 0, 0), 0);
            due.is("kind", x.value(t, 0, -5, -1), 0);
        }
        due.is("CHANGES", x.state(6), 3 + 2 * 10);
        x.property(LINK, 0, 1, NUMBER, 6);
        due.is("the LINK is as it was", x.thing(LINK, 0, 2) + " " + x.thing(LINK, 0, 3), "1 7");
        x.label(0, 3, true);
        x.property(NODE, 0, 1, NUMBER, 6);
        due.is("the LABEL is as it was", x.has(0, 3), true);
        x.label(0, 4, true);
        due.is("the PROPERTY is as it was", x.value(NODE, 0, 1, -2), 6);
        due.is("that of another NODE", x.value(NODE, 1, 1, -1), 0);
    }

    private void propertyRefuses() {
        due.part("promise 5, refused");
        Real x = withNodes(1);
        for (int kind : new int[] {-1, 4, 5, Integer.MIN_VALUE, Integer.MAX_VALUE}) {
            error(x, 2, "kind " + kind, () -> x.property(NODE, 0, 1, kind, 0));
        }
        for (long v : new long[] {2, -1, Long.MIN_VALUE, Long.MAX_VALUE, 1L << 32, 1L << 32 | 1}) {
            error(x, 2, "truth " + v, () -> x.property(NODE, 0, 1, TRUTH, v));
        }
        for (int thing : new int[] {0, 1, 3, LINK, 6, -1, Integer.MAX_VALUE}) {
            error(x, 8, "thing " + thing, () -> x.property(thing, 0, 1, NUMBER, 0));
        }
        for (int n : new int[] {1, -1, 64, 96, Integer.MIN_VALUE, Integer.MAX_VALUE}) {
            error(x, 8, "NODE " + n, () -> x.property(NODE, n, 1, NUMBER, 0));
            error(x, 8, "LINK " + n, () -> x.property(LINK, n, 1, AWAY, 0));
        }
        due.is("PROPERTIES", x.thing(NODE, 0, 0), 0);
    }

    private void propertyLimits() {
        due.part("promise 5, too many");
        Real x = withNodes(1);
        x.link(0, 0, 0);
        for (int thing = NODE; thing <= LINK; thing++) {
            int t = thing;
            for (int key = 1; key <= 6; key++) {
                x.property(t, 0, key, NUMBER, key);
            }
            error(x, 6, "the 7th PROPERTY", () -> x.property(t, 0, 7, NUMBER, 0));
            due.call("one that is there", true, () -> x.property(t, 0, 6, NUMBER, 60));
            due.call("the same", false, () -> x.property(t, 0, 6, NUMBER, 60));
            due.call("what is not there taken away", false, () -> x.property(t, 0, 7, AWAY, 0));
            due.call("taken away", true, () -> x.property(t, 0, 2, AWAY, 0));
            due.call("there is room again", true, () -> x.property(t, 0, 7, NUMBER, 70));
            int[] numbers = {1, 0, 3, 4, 5, 60, 70};
            for (int key = 1; key <= 7; key++) {
                int k = key;
                due.call("value " + key, key == 2 ? Due.NO_SUCH : numbers[key - 1], () -> x.value(t, 0, k, -2));
            }
        }
    }

    private void propertyAndTheTape() {
        due.part("promise 5, the tape");
        Real x = withNodes(2);
        x.type(word("abc"), 3);
        error(x, 8, "no such thing", () -> x.property(NODE, 9, 1, TEXT, 0));
        error(x, 2, "no such kind", () -> x.property(NODE, 0, 1, 4, 0));
        x.property(NODE, 0, 9, NUMBER, 5);
        x.property(NODE, 0, 9, AWAY, 5);
        x.undo();
        x.node();
        due.call("the tape is as it was", true, () -> x.property(NODE, 0, 1, TEXT, 0));
        due.is("length", x.value(NODE, 0, 1, -2), 3);
        x.type(word("abc"), 3);
        x.property(NODE, 0, 1, TEXT, 0);
        due.call("emptied by what was no CHANGE", true, () -> x.property(NODE, 0, 2, TEXT, 0));
        due.is("length", x.value(NODE, 0, 2, -2), 0);
        for (int key = 3; key <= 6; key++) {
            x.property(NODE, 0, key, NUMBER, 0);
        }
        x.type(word("abc"), 3);
        error(x, 6, "the 7th PROPERTY", () -> x.property(NODE, 0, 7, TEXT, 0));
        x.property(NODE, 0, 1, TEXT, 0);
        due.is("emptied by ERROR 6", x.value(NODE, 0, 1, -2), 0);
        x.done();
        change(x, 0, 249);
        x.type(word("abc"), 3);
        error(x, 9, "the 250th CHANGE", () -> x.property(NODE, 0, 1, TEXT, 0));
        x.undo();
        due.call("emptied by ERROR 9", false, () -> x.property(NODE, 0, 1, TEXT, 0));
    }

    private void link() {
        due.part("promise 6");
        Real x = withNodes(3);
        due.call("link", 0, () -> x.link(0, 1, Integer.MIN_VALUE));
        due.call("another of the same ends", 1, () -> x.link(0, 1, Integer.MAX_VALUE));
        due.call("to itself", 2, () -> x.link(2, 2, 0));
        due.is("start", x.thing(LINK, 0, 1), 0);
        due.is("end", x.thing(LINK, 0, 2), 1);
        due.is("TYPE", x.thing(LINK, 0, 3), Integer.MIN_VALUE);
        due.is("TYPE", x.thing(LINK, 1, 3), Integer.MAX_VALUE);
        due.is("PROPERTIES", x.thing(LINK, 1, 0), 0);
        due.is("LINKS", x.state(1), 3);
        due.is("CHANGES", x.state(6), 6);
        for (int n : new int[] {3, -1, 64, Integer.MIN_VALUE, Integer.MAX_VALUE}) {
            error(x, 8, "start " + n, () -> x.link(n, 0, 1));
            error(x, 8, "end " + n, () -> x.link(0, n, 1));
        }
        x.take(LINK, 1);
        due.call("link: 1 was taken away in this STATEMENT", 3, () -> x.link(1, 0, 5));
        x.done();
        due.call("link: 1 is free now", 1, () -> x.link(1, 0, 6));
        x.take(NODE, x.node());
        error(x, 8, "a NODE taken away", () -> x.link(3, 0, 1));
    }

    private void linkTooMany() {
        due.part("promise 6, too many");
        Real x = withNodes(2);
        for (int i = 0; i < 96; i++) {
            int n = i;
            due.call("link", n, () -> x.link(0, 1, n));
        }
        error(x, 6, "the 97th LINK", () -> x.link(0, 1, 1));
        error(x, 8, "the 97th LINK from none", () -> x.link(2, 1, 1));
        x.take(LINK, 95);
        error(x, 6, "link: no number but that of one taken away", () -> x.link(0, 1, 1));
        x.done();
        due.call("link", 95, () -> x.link(0, 1, 1));
    }

    private void take() {
        due.part("promise 7");
        Real x = withNodes(3);
        x.label(0, 1, true);
        x.property(NODE, 0, 1, NUMBER, 1);
        x.link(0, 1, 5);
        x.property(LINK, 0, 1, NUMBER, 1);
        takeError(x, 7, "a NODE where a LINK starts", NODE, 0);
        takeError(x, 7, "where one ends", NODE, 1);
        due.is("CHANGES", x.state(6), 7);
        due.step("the LINK", "void", () -> x.take(LINK, 0));
        due.is("CHANGES", x.state(6), 8);
        takeError(x, 8, "the LINK again", LINK, 0);
        due.step("the NODE", "void", () -> x.take(NODE, 0));
        due.is("CHANGES: its LABELS and PROPERTIES are none of their own", x.state(6), 9);
        takeError(x, 8, "the NODE again", NODE, 0);
        due.is("NODES", x.state(0), 2);
        due.is("LINKS", x.state(1), 0);
        x.done();
        due.call("node()", 0, x::node);
        due.is("LABELS", x.thing(NODE, 0, 1), 0);
        due.is("PROPERTIES", x.thing(NODE, 0, 0), 0);
        due.call("link", 0, () -> x.link(0, 0, 2));
        due.is("PROPERTIES", x.thing(LINK, 0, 0), 0);
        takeError(x, 7, "a NODE with a LINK to itself", NODE, 0);
    }

    private void takeNumbers() {
        due.part("promise 7, refused");
        for (int n : new int[] {1, -1, 63, 64, 96, Integer.MIN_VALUE, Integer.MAX_VALUE}) {
            takeError(withNodes(1), 8, "NODE " + n, NODE, n);
            takeError(withNodes(1), 8, "LINK " + n, LINK, n);
        }
        for (int thing : new int[] {0, 3, 6, -4, Integer.MAX_VALUE}) {
            takeError(withNodes(1), 8, "thing " + thing, thing, 0);
        }
    }

    private void changeLimit() {
        due.part("ERROR 9 at the 250th CHANGE");
        Real x = withNodes(2);
        x.link(0, 1, 1);
        change(x, 0, 246);
        due.is("CHANGES", x.state(6), 249);
        error(x, 9, "node", x::node);
        error(x, 9, "label on", () -> x.label(0, 1, true));
        error(x, 9, "property", () -> x.property(NODE, 0, 1, NUMBER, 1));
        error(x, 9, "link", () -> x.link(0, 1, 1));
        takeError(x, 9, "take a LINK", LINK, 0);
        takeError(x, 7, "take a NODE that has a LINK", NODE, 0);
        due.is("LINKS", x.state(1), 1);
        due.call("what is no CHANGE", false, () -> x.label(0, 1, false));
        due.call("what is no CHANGE", false, () -> x.property(NODE, 0, 1, AWAY, 1));
        due.call("done()", 249, x::done);
        due.is("LOG", x.state(3), 250);
        due.call("node()", 2, x::node);
    }

    private void changeLimitInTransaction() {
        due.part("ERROR 9 at the 250th CHANGE of a TRANSACTION");
        Real x = new Real();
        x.begin();
        x.node();
        change(x, 0, 200);
        x.done();
        change(x, 0, 48);
        error(x, 9, "node", x::node);
        due.call("undo()", 48, x::undo);
        due.is("CHANGES", x.state(6), 201);
        change(x, 0, 48);
        error(x, 9, "node", x::node);
        due.call("done()", 48, x::done);
        error(x, 9, "node in the next STATEMENT", x::node);
        due.call("commit()", 250, x::commit);
    }

    private void errorOrder() {
        due.part("the order of ERRORS");
        Real x = new Real();
        x.begin();
        for (int i = 0; i < 64; i++) {
            x.node();
        }
        for (int key = 1; key <= 6; key++) {
            x.property(NODE, 0, key, NUMBER, 0);
        }
        for (int label = 1; label <= 4; label++) {
            x.label(0, label, true);
        }
        for (int i = 0; i < 96; i++) {
            x.link(0, 1, i);
        }
        change(x, 2, 249 - 64 - 6 - 4 - 96);
        due.is("CHANGES", x.state(6), 249);
        error(x, 8, "8 ahead of 2", () -> x.property(NODE, 64, 1, 9, 0));
        error(x, 8, "8 ahead of 6", () -> x.label(64, 5, true));
        error(x, 8, "8 ahead of 6 and 9", () -> x.link(0, 64, 5));
        error(x, 2, "2 ahead of 6 and 9", () -> x.property(NODE, 0, 7, TRUTH, 2));
        error(x, 6, "6 ahead of 9", x::node);
        error(x, 6, "6 ahead of 9", () -> x.label(0, 5, true));
        error(x, 6, "6 ahead of 9", () -> x.property(NODE, 0, 7, NUMBER, 0));
        error(x, 6, "6 ahead of 9", () -> x.link(0, 1, 5));
        takeError(x, 7, "7 ahead of 9", NODE, 1);
        takeError(x, 9, "9", NODE, 2);
        takeError(x, 8, "8 ahead of 9", NODE, 64);
    }

    private void errorStays() {
        due.part("promise 8");
        Real x = withNodes(1);
        due.is("none yet", x.error(), 0);
        error(x, 8, "label", () -> x.label(5, 1, true));
        x.label(0, 1, true);
        x.type(0, 0);
        x.cut(-1);
        Due.answer(() -> x.value(NODE, 5, 1, 1));
        x.undo();
        x.begin();
        x.commit();
        x.checkpoint();
        x.cut(1);
        Due.answer(x::checkpoint);
        due.is("OFF", x.state(4), 1);
        Due.answer(x::node);
        Due.answer(() -> x.property(NODE, 0, 1, 9, 1));
        due.is("error() while OFF", x.error(), 8);
        x.recover();
        due.is("error() behind recover()", x.error(), 8);
        x.node();
        error(x, 2, "property", () -> x.property(NODE, 0, 1, 9, 1));
        due.is("error() again", x.error(), 2);
    }

    private void done() {
        due.part("promise 9");
        Real x = withNodes(2);
        due.call("done()", 2, x::done);
        states(x, 2, 0, 3, 3, 0, 0, 0);
        due.call("done() without CHANGES", 0, x::done);
        x.label(0, 1, false);
        due.call("done() with what is none", 0, x::done);
        states(x, 2, 0, 3, 3, 0, 0, 0);
        x.label(0, 1, true);
        x.label(0, 1, false);
        due.call("done(): each CHANGE counts", 2, x::done);
        states(x, 2, 0, 6, 6, 0, 0, 0);
        due.call("undo() behind done()", 0, x::undo);
        x.begin();
        x.node();
        due.call("done() in a TRANSACTION", 1, x::done);
        states(x, 3, 0, 6, 6, 0, 1, 1);
        x.node();
        x.node();
        due.call("done() tells its own CHANGES", 2, x::done);
        states(x, 5, 0, 6, 6, 0, 1, 3);
        due.is("recover()", x.recover(), 2);
        states(x, 2, 0, 6, 6, 0, 0, 0);
    }

    private void doneWithoutRoom() {
        due.part("promise 9, no room");
        Real x = kept(1);
        change(x, 0, 240);
        x.done();
        due.is("LOG", x.state(3), 243);
        x.node();
        x.take(NODE, 0);
        change(x, 1, 5);
        due.call("7 and an END", Due.ERROR, x::done);
        due.is("error()", x.error(), 9);
        states(x, 1, 0, 243, 243, 0, 0, 0);
        due.is("thing(4, 0, 0)", x.thing(NODE, 0, 0), 0);
        due.call("node(): all was undone", 1, x::node);
        change(x, 0, 5);
        due.call("6 and an END", 6, x::done);
        states(x, 2, 0, 250, 250, 0, 0, 0);
        x.node();
        due.call("no room at all", Due.ERROR, x::done);
        due.call("done() without CHANGES needs none", 0, x::done);
        x.begin();
        x.node();
        due.call("done() in a TRANSACTION needs none", 1, x::done);
        x.rollback();
        x.cut(1);
        x.node();
        due.call("no WRITE is tried", Due.ERROR, x::done);
        due.is("OFF", x.state(4), 0);
        x.cut(0);
        x.checkpoint();
        x.node();
        due.call("room again", 1, x::done);
        due.is("LOG", x.state(3), 2);
    }

    private void donePowerFails() {
        due.part("promise 9, the power fails");
        for (int n = 1; n <= 5; n++) {
            Real x = kept(2);
            x.label(0, 5, true);
            x.link(0, 1, 5);
            x.take(NODE, x.node());
            x.cut(n);
            due.call("done() with cut(" + n + ")", Due.OFF, x::done);
            states(x, 0, 0, 3 + n - 1, 3 + n - 1, 1, 0, 0);
            due.is("recover()", x.recover(), 1);
            states(x, 2, 0, 3 + n - 1, 3, 0, 0, 0);
            due.is("has", x.has(0, 5), false);
        }
        Real x = kept(2);
        x.node();
        x.cut(3);
        due.call("done()", 1, x::done);
        x.node();
        due.call("done(): the third WRITE from then on", Due.OFF, x::done);
        due.is("recover()", x.recover(), 2);
        states(x, 3, 0, 5, 5, 0, 0, 0);
    }

    private void undo() {
        due.part("promise 10");
        Real x = kept(2);
        x.node();
        x.label(0, 1, true);
        due.call("undo()", 2, x::undo);
        states(x, 2, 0, 3, 3, 0, 0, 0);
        due.call("undo() again", 0, x::undo);
        x.begin();
        x.node();
        x.done();
        x.node();
        due.call("undo() in a TRANSACTION", 1, x::undo);
        states(x, 3, 0, 3, 3, 0, 1, 1);
        due.call("undo() again", 0, x::undo);
        due.is("what was done stays", x.thing(NODE, 2, 0), 0);
        due.call("undo() while OFF", 0, switchedOff()::undo);
    }

    private void undoRestoresAll() {
        due.part("promise 10, all is as it was");
        Real x = withNodes(3);
        x.label(0, 1, true);
        x.label(0, 2, true);
        x.type(word("text"), 4);
        x.property(NODE, 0, 1, TEXT, 0);
        x.property(NODE, 0, 2, NUMBER, 7);
        x.link(0, 1, 4);
        x.link(1, 0, 5);
        x.property(LINK, 0, 3, TRUTH, 1);
        x.done();
        x.label(0, 1, false);
        x.label(0, 9, true);
        x.property(NODE, 0, 1, NUMBER, 3);
        x.property(NODE, 0, 2, AWAY, 3);
        x.property(LINK, 0, 3, TRUTH, 0);
        x.take(LINK, 0);
        x.take(LINK, 1);
        x.take(NODE, 0);
        x.take(NODE, 2);
        due.call("undo()", 9, x::undo);
        states(x, 3, 2, 11, 11, 0, 0, 0);
        due.is("LABELS", x.has(0, 1) + " " + x.has(0, 2) + " " + x.has(0, 9), "true true false");
        due.is("text", x.value(NODE, 0, 1, 3), (int) 't');
        due.is("number", x.value(NODE, 0, 2, -2), 7);
        due.is("truth", x.value(LINK, 0, 3, -2), 1);
        due.is("LINK 1", x.thing(LINK, 1, 1) + " " + x.thing(LINK, 1, 2) + " " + x.thing(LINK, 1, 3), "1 0 5");
        due.is("chain", x.chain(0, true, 0), 0);
        due.is("chain", x.chain(0, false, 0), 1);
    }

    private void begin() {
        due.part("promise 11");
        Real x = kept(1);
        x.node();
        due.call("begin()", true, x::begin);
        states(x, 1, 0, 2, 2, 0, 1, 0);
        x.node();
        due.call("begin() in one", false, x::begin);
        states(x, 2, 0, 2, 2, 0, 1, 1);
        x.commit();
        due.call("begin() behind commit()", true, x::begin);
        x.rollback();
        due.call("begin() behind rollback()", true, x::begin);
        x.recover();
        due.call("begin() behind recover()", true, x::begin);
        due.call("begin() while OFF", false, switchedOff()::begin);
    }

    private void commit() {
        due.part("promise 12");
        Real x = withNodes(1);
        due.call("commit() without one", -1, x::commit);
        due.is("the STATEMENT goes on", x.state(6), 1);
        x.done();
        x.begin();
        due.call("commit() of nothing", 0, x::commit);
        states(x, 1, 0, 2, 2, 0, 0, 0);
        due.call("commit() again", -1, x::commit);
        x.begin();
        x.node();
        x.done();
        x.link(0, 1, 3);
        due.call("commit()", 3, x::commit);
        states(x, 2, 1, 5, 5, 0, 0, 0);
        due.call("undo() behind commit()", 0, x::undo);
        due.is("rollback()", x.rollback(), false);
        due.is("recover()", x.recover(), 2);
        states(x, 2, 1, 5, 5, 0, 0, 0);
    }

    private void commitWithoutRoom() {
        due.part("promise 12, no room");
        Real x = kept(2);
        change(x, 0, 242);
        x.done();
        due.is("LOG", x.state(3), 246);
        x.begin();
        x.node();
        x.done();
        x.take(NODE, 1);
        x.node();
        x.label(0, 1, true);
        due.call("commit(): 4 and an END", -2, x::commit);
        due.is("error(): that is none", x.error(), 0);
        states(x, 3, 0, 246, 246, 0, 1, 4);
        due.call("undo(): the STATEMENT is done", 0, x::undo);
        due.call("node(): 1 is free in the next STATEMENT", 1, x::node);
        x.undo();
        due.call("checkpoint()", -1, x::checkpoint);
        due.call("commit() again", -2, x::commit);
        due.is("rollback()", x.rollback(), true);
        states(x, 2, 0, 246, 246, 0, 0, 0);
        due.is("thing(4, 1, 0)", x.thing(NODE, 1, 0), 0);
        x.begin();
        change(x, 0, 3);
        due.call("commit(): 3 and an END", 4, x::commit);
        due.is("LOG", x.state(3), 250);
        x.begin();
        due.call("commit() of nothing needs no room", 0, x::commit);
        due.is("in a TRANSACTION", x.state(5), 0);
    }

    private void commitPowerFails() {
        due.part("promise 12, the power fails");
        for (int n = 1; n <= 3; n++) {
            Real x = kept(1);
            x.begin();
            x.node();
            x.done();
            x.node();
            x.cut(n);
            due.call("commit() with cut(" + n + ")", Due.OFF, x::commit);
            states(x, 0, 0, 2 + n - 1, 2 + n - 1, 1, 0, 0);
            due.call("commit() while OFF", Due.OFF, x::commit);
            due.is("rollback() while OFF", x.rollback(), false);
            due.is("recover()", x.recover(), 1);
            states(x, 1, 0, 2 + n - 1, 2, 0, 0, 0);
        }
    }

    private void rollback() {
        due.part("promise 13");
        Real x = kept(2);
        x.label(0, 1, true);
        due.is("rollback() without one", x.rollback(), false);
        due.is("the STATEMENT goes on", x.state(6), 1);
        x.done();
        x.begin();
        x.label(0, 1, false);
        x.done();
        x.link(0, 1, 1);
        x.done();
        x.node();
        due.is("rollback()", x.rollback(), true);
        states(x, 2, 0, 5, 5, 0, 0, 0);
        due.is("has", x.has(0, 1), true);
        due.is("rollback() again", x.rollback(), false);
        x.begin();
        due.is("rollback() of nothing", x.rollback(), true);
        due.call("undo()", 0, x::undo);
        due.call("node()", 2, x::node);
        due.call("undo()", 1, x::undo);
        due.is("NODES", x.state(0), 2);
    }

    private void checkpoint() {
        due.part("promise 14");
        Real x = kept(3);
        x.link(0, 1, 1);
        due.call("a STATEMENT with CHANGES", -1, x::checkpoint);
        x.done();
        x.begin();
        due.call("a TRANSACTION", -1, x::checkpoint);
        x.rollback();
        x.label(0, 1, false);
        states(x, 3, 1, 6, 6, 0, 0, 0);
        due.call("checkpoint()", 5, x::checkpoint);
        states(x, 3, 1, 11, 0, 0, 0, 0);
        due.call("checkpoint() again", 5, x::checkpoint);
        states(x, 3, 1, 16, 0, 0, 0, 0);
        due.is("recover()", x.recover(), 0);
        states(x, 3, 1, 16, 0, 0, 0, 0);
        x.take(LINK, 0);
        x.done();
        due.is("recover()", x.recover(), 1);
        states(x, 3, 0, 18, 2, 0, 0, 0);
        due.call("checkpoint() while OFF", Due.OFF, switchedOff()::checkpoint);
    }

    private void checkpointPowerFails() {
        due.part("promise 14, the power fails");
        for (int n = 1; n <= 4; n++) {
            Real x = kept(2);
            x.checkpoint();
            x.link(0, 1, 6);
            x.done();
            x.cut(n);
            due.call("checkpoint() with cut(" + n + ")", Due.OFF, x::checkpoint);
            states(x, 0, 0, 8 + n - 1, 2, 1, 0, 0);
            due.is("recover()", x.recover(), 1);
            states(x, 2, 1, 8 + n - 1, 2, 0, 0, 0);
            due.call("checkpoint()", 4, x::checkpoint);
        }
    }

    private void cut() {
        due.part("promise 15");
        Real x = kept(1);
        for (int n : new int[] {-1, 2001, Integer.MIN_VALUE, Integer.MAX_VALUE}) {
            due.is("cut(" + n + ")", x.cut(n), false);
        }
        due.is("cut(2000)", x.cut(2000), true);
        due.is("cut(1)", x.cut(1), true);
        due.is("cut(0)", x.cut(0), true);
        due.call("none fails", 2, x::checkpoint);
        x.cut(1);
        due.is("cut(2001)", x.cut(2001), false);
        due.call("what was told stays told", Due.OFF, x::checkpoint);
        due.is("cut(0) while OFF", x.cut(0), false);
        due.is("cut(1) while OFF", x.cut(1), false);
        x.recover();
        x.cut(2);
        due.is("cut(3)", x.cut(3), true);
        due.call("the latest one counts", 2, x::checkpoint);
        due.call("the third WRITE", Due.OFF, x::checkpoint);
    }

    private void recoverFromOff() {
        due.part("promise 16");
        Real x = switchedOff();
        x.type(word("ab"), 2);
        due.is("recover()", x.recover(), 1);
        states(x, 2, 0, 3, 3, 0, 0, 0);
        due.call("checkpoint(): no WRITE is told", 3, x::checkpoint);
        x.cut(1);
        due.is("recover()", x.recover(), 0);
        due.call("checkpoint(): no WRITE is told", 3, x::checkpoint);
        due.call("the tape is as it was", true, () -> x.property(NODE, 0, 1, TEXT, 0));
        due.is("length", x.value(NODE, 0, 1, -2), 2);
        due.call("undo() goes to what was recovered", 1, x::undo);
        states(x, 2, 0, 9, 0, 0, 0, 0);
    }

    private void recoverWhileOn() {
        due.part("promise 16, not OFF");
        Real x = kept(2);
        x.node();
        due.is("recover()", x.recover(), 1);
        states(x, 2, 0, 3, 3, 0, 0, 0);
        due.call("undo(): the STATEMENT is lost", 0, x::undo);
        x.begin();
        x.node();
        x.done();
        x.take(NODE, 0);
        due.is("recover()", x.recover(), 1);
        states(x, 2, 0, 3, 3, 0, 0, 0);
        due.call("commit(): the TRANSACTION is lost", -1, x::commit);
        due.is("thing(4, 0, 0)", x.thing(NODE, 0, 0), 0);
        due.call("done()", 0, x::done);
        due.call("node()", 2, x::node);
        due.call("undo()", 1, x::undo);
        states(x, 2, 0, 3, 3, 0, 0, 0);
    }

    private void recoverCounts() {
        due.part("promise 16, how many");
        Real x = kept(1);
        x.checkpoint();
        for (int i = 0; i < 3; i++) {
            x.node();
            x.done();
        }
        x.begin();
        x.node();
        x.done();
        x.node();
        x.commit();
        x.begin();
        x.commit();
        x.begin();
        x.node();
        x.rollback();
        due.is("recover()", x.recover(), 4);
        due.is("recover() again", x.recover(), 4);
        states(x, 6, 0, 13, 9, 0, 0, 0);
        x.node();
        x.cut(2);
        Due.answer(x::done);
        due.is("LOG", x.state(3), 10);
        due.is("recover()", x.recover(), 4);
        due.is("LOG", x.state(3), 9);
        x.node();
        due.call("done()", 1, x::done);
        due.is("recover()", x.recover(), 5);
        due.is("LOG", x.state(3), 11);
    }

    private void whileOff() {
        due.part("while OFF");
        Real x = switchedOff();
        due.call("node()", Due.OFF, x::node);
        due.call("label", Due.OFF, () -> x.label(0, 1, true));
        due.call("label at none", Due.OFF, () -> x.label(-1, 1, true));
        x.type(word("ab"), 2);
        due.call("property", Due.OFF, () -> x.property(NODE, 0, 1, TEXT, 0));
        due.call("property of none", Due.OFF, () -> x.property(9, 9, 1, 9, 0));
        due.call("link", Due.OFF, () -> x.link(0, 1, 1));
        due.step("take", Due.OFF, () -> x.take(NODE, 0));
        due.step("take none", Due.OFF, () -> x.take(9, 9));
        due.call("done()", Due.OFF, x::done);
        due.call("commit()", Due.OFF, x::commit);
        due.call("checkpoint()", Due.OFF, x::checkpoint);
        due.call("undo()", 0, x::undo);
        due.call("begin()", false, x::begin);
        due.call("rollback()", false, x::rollback);
        due.call("type()", true, () -> x.type('c', 1));
        due.is("error()", x.error(), 0);
        due.is("thing(4, 0, 0)", x.thing(NODE, 0, 0), -1);
        due.is("chain(0, true, 0)", x.chain(0, true, 0), -1);
        due.is("has(0, 1)", x.has(0, 1), false);
        due.call("value(4, 0, 1, -1)", Due.NO_SUCH, () -> x.value(NODE, 0, 1, -1));
        states(x, 0, 0, 3, 3, 1, 0, 0);
        x.recover();
        x.property(NODE, 0, 1, TEXT, 0);
        due.is("the tape is as it was", x.value(NODE, 0, 1, -2), 3);
    }

    private void thing() {
        due.part("promise 17");
        Real x = withNodes(3);
        x.label(1, 5, true);
        x.label(1, 6, true);
        x.property(NODE, 1, 1, NUMBER, 1);
        x.link(1, 2, -9);
        x.link(1, 1, 8);
        x.link(0, 1, 7);
        x.link(1, 0, 6);
        int[][] wanted = {{NODE, 1, 1, 2, 3, 2}, {NODE, 0, 0, 0, 1, 1}, {LINK, 0, 0, 1, 2, -9}, {LINK, 2, 0, 0, 1, 7}};
        for (int[] row : wanted) {
            for (int what = 0; what <= 3; what++) {
                due.is("thing(" + row[0] + ", " + row[1] + ", " + what + ")", x.thing(row[0], row[1], what), row[what + 2]);
            }
            for (int what : new int[] {-1, 4, Integer.MIN_VALUE, Integer.MAX_VALUE}) {
                due.is("what " + what, x.thing(row[0], row[1], what), -1);
            }
        }
        for (int n : new int[] {-1, 4, 63, 64, 95, 96, Integer.MIN_VALUE, Integer.MAX_VALUE}) {
            for (int what = 0; what <= 3; what++) {
                due.is("NODE " + n, x.thing(NODE, n, what), -1);
                due.is("LINK " + n, x.thing(LINK, n, what), -1);
            }
        }
        for (int thing : new int[] {0, 3, 6, -1, Integer.MAX_VALUE}) {
            due.is("thing " + thing, x.thing(thing, 0, 0), -1);
        }
    }

    private void chain() {
        due.part("promise 18");
        Real x = withNodes(3);
        x.link(0, 1, 0);
        x.link(1, 0, 0);
        x.link(0, 0, 0);
        x.link(0, 2, 0);
        x.done();
        x.take(LINK, 0);
        x.done();
        x.link(0, 1, 0);
        int[] out = {0, 2, 3, -1};
        int[] in = {1, 2, -1, -1};
        for (int k = 0; k < 4; k++) {
            due.is("chain(0, true, " + k + ")", x.chain(0, true, k), out[k]);
            due.is("chain(0, false, " + k + ")", x.chain(0, false, k), in[k]);
        }
        x.take(LINK, 2);
        due.is("chain(0, true, 1)", x.chain(0, true, 1), 3);
        for (int k : new int[] {-1, Integer.MIN_VALUE, Integer.MAX_VALUE}) {
            due.is("k " + k, x.chain(0, true, k), -1);
        }
        for (int n : new int[] {-1, 3, 64, Integer.MIN_VALUE, Integer.MAX_VALUE}) {
            due.is("NODE " + n, x.chain(n, true, 0) + " " + x.chain(n, false, 0), "-1 -1");
        }
    }

    private void has() {
        due.part("promise 19");
        Real x = withNodes(2);
        x.label(0, 0, true);
        x.label(1, -1, true);
        due.is("has(0, 0)", x.has(0, 0), true);
        due.is("has(1, 0)", x.has(1, 0), false);
        due.is("has(1, -1)", x.has(1, -1), true);
        due.is("has(0, -1)", x.has(0, -1), false);
        x.label(0, 0, false);
        due.is("has(0, 0)", x.has(0, 0), false);
        for (int n : new int[] {-1, 2, 64, Integer.MIN_VALUE, Integer.MAX_VALUE}) {
            due.is("has(" + n + ", 0)", x.has(n, 0), false);
        }
    }

    private void value() {
        due.part("promise 20");
        Real x = withNodes(1);
        x.type(word("a~"), 2);
        x.property(NODE, 0, 1, TEXT, 0);
        x.property(NODE, 0, 2, NUMBER, Long.MAX_VALUE);
        x.property(NODE, 0, 3, TRUTH, 1);
        Object[][] wanted = {
            {1, -1, 3}, {1, -2, 2}, {1, 0, (int) 'a'}, {1, 1, (int) '~'}, {1, 2, Due.NO_SUCH}, {1, -3, Due.NO_SUCH},
            {1, Integer.MIN_VALUE, Due.NO_SUCH}, {1, Integer.MAX_VALUE, Due.NO_SUCH},
            {2, -1, 1}, {2, -2, Long.MAX_VALUE}, {2, 0, Due.NO_SUCH}, {2, -3, Due.NO_SUCH},
            {3, -1, 2}, {3, -2, 1}, {3, 0, Due.NO_SUCH},
            {4, -1, 0}, {4, -2, Due.NO_SUCH}, {4, 0, Due.NO_SUCH}, {4, -3, Due.NO_SUCH},
        };
        for (Object[] row : wanted) {
            due.call("value(4, 0, " + row[0] + ", " + row[1] + ")", row[2], () -> x.value(NODE, 0, (int) row[0], (int) row[1]));
        }
        for (int n : new int[] {-1, 1, 64, 96, Integer.MIN_VALUE, Integer.MAX_VALUE}) {
            due.call("NODE " + n, Due.NO_SUCH, () -> x.value(NODE, n, 1, -1));
            due.call("LINK " + n, Due.NO_SUCH, () -> x.value(LINK, n, 1, -1));
        }
        for (int thing : new int[] {0, 3, LINK, 6, -1}) {
            due.call("thing " + thing, Due.NO_SUCH, () -> x.value(thing, 0, 1, -1));
        }
        due.is("error(): none of these is one", x.error(), 0);
    }

    private void state() {
        due.part("promise 21");
        Real x = withNodes(2);
        x.link(0, 1, 1);
        states(x, 2, 1, 0, 0, 0, 0, 3);
        x.done();
        states(x, 2, 1, 4, 4, 0, 0, 0);
        x.begin();
        states(x, 2, 1, 4, 4, 0, 1, 0);
        x.take(LINK, 0);
        x.done();
        x.take(NODE, 1);
        states(x, 1, 0, 4, 4, 0, 1, 2);
        x.commit();
        states(x, 1, 0, 7, 7, 0, 0, 0);
        x.node();
        x.cut(2);
        Due.answer(x::done);
        states(x, 0, 0, 8, 8, 1, 0, 0);
        x.recover();
        states(x, 1, 0, 8, 7, 0, 0, 0);
        for (int what : new int[] {-1, 7, Integer.MIN_VALUE, Integer.MAX_VALUE}) {
            due.is("state(" + what + ")", x.state(what), -1);
        }
    }
}
