import java.util.List;

/** What the tests share: runs of calls that lead to an edge, and checks of what is answered there. */
abstract class Bench {
    static final int NODE = 4;
    static final int LINK = 5;
    static final int AWAY = 0;
    static final int NUMBER = 1;
    static final int TRUTH = 2;
    static final int TEXT = 3;
    static final int LEAST = Integer.MIN_VALUE;
    static final int MOST = Integer.MAX_VALUE;

    final Due due;

    Bench(String title) {
        due = new Due(title);
    }

    static long word(String text) {
        long word = 0;
        for (int i = 0; i < text.length(); i++) {
            word = word << 8 | text.charAt(i);
        }
        return word;
    }

    static Real at(Script script) {
        Real x = new Real();
        script.on(x);
        return x;
    }

    static Script nodes(int count) {
        return x -> {
            for (int i = 0; i < count; i++) {
                x.node();
            }
        };
    }

    static Script links(int count) {
        return x -> {
            for (int i = 0; i < count; i++) {
                x.link(0, 0, i);
            }
        };
    }

    static Script labels(int n, int count) {
        return x -> {
            for (int label = 1; label <= count; label++) {
                x.label(n, label, true);
            }
        };
    }

    static Script properties(int thing, int n, int count) {
        return x -> {
            for (int key = 1; key <= count; key++) {
                x.property(thing, n, key, NUMBER, key);
            }
        };
    }

    static Script typed(int count) {
        return x -> {
            for (int i = 0; i < count; i++) {
                x.type('a' + i, 1);
            }
        };
    }

    /** So many CHANGES, at a NODE that has no LABEL 99. */
    static Script changes(int n, int count) {
        return x -> {
            for (int i = 0; i < count; i++) {
                x.label(n, 99, i % 2 == 0);
            }
        };
    }

    /** What the document asks of a call that is taken or only looks. */
    void answers(Object wanted, String what, Script before, Ask ask) {
        due.is(what, Due.answer(ask, at(before)), wanted);
    }

    /** As answers(), and whatever is asked behind the call is answered as if it had not been made. */
    void leavesAll(Object wanted, String what, Script before, Ask ask) {
        answers(wanted, what, before, ask);
        Script with = before.thenRefused(ask);
        due.is("error() behind " + what, at(with).error(), at(before).error());
        same(what, Witness.ALL, with, before);
    }

    /** An ERROR: it is told, and is all that the call changes. */
    void error(int wanted, String what, Script before, Ask ask) {
        answers(Due.ERROR, what, before, ask);
        Script with = before.thenRefused(ask);
        due.is("error() behind " + what, at(with).error(), wanted);
        same(what, Witness.ALL, with, before);
    }

    void same(String what, List<Witness> witnesses, Script one, Script other) {
        for (Witness witness : witnesses) {
            due.is(witness.name() + " behind " + what, witness.ask().of(at(one)), witness.ask().of(at(other)));
        }
    }

    /** State 0 up to as many as are given. */
    void states(String what, Script before, int... wanted) {
        Real x = at(before);
        for (int i = 0; i < wanted.length; i++) {
            due.is("state(" + i + ") behind " + what, x.state(i), wanted[i]);
        }
    }
}
