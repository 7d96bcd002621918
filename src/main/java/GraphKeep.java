import java.util.NoSuchElementException;

/** Keeps a graph through statements, transactions, a log, a checkpoint and power that fails. */
public final class GraphKeep {
    public static final int NONE = -1;

    private static final int NODE = 4;
    private static final int LINK = 5;

    private static final int NO_KIND = 0;
    private static final int TRUTH = 2;
    private static final int TEXT = 3;

    private static final int MOST_NODES = 64;
    private static final int MOST_LINKS = 96;
    private static final int MOST_LABELS = 4;
    private static final int MOST_PROPERTIES = 6;
    private static final int MOST_CHARACTERS = 24;
    private static final int MOST_CHANGES = 249;
    private static final int LOG_ROOM = 250;
    private static final int FARTHEST_CUT = 2000;

    private static final int NO_VALUE = 2;
    private static final int TOO_MANY = 6;
    private static final int HAS_LINKS = 7;
    private static final int NO_SUCH_THING = 8;
    private static final int NO_ROOM = 9;

    private static final int LOG_FULL = -2;

    private final Graph now;
    private final Graph atStatement;
    // A TRANSACTION gets here with its END, so this is also what RECOVERED means:
    // the latest whole CHECKPOINT with the ended TRANSACTIONS of the LOG.
    private final Graph kept;
    private final Log log;
    private final Tape tape;
    private final boolean[] goneNodes;
    private final boolean[] goneLinks;
    private int latestError;
    private int statementChanges;
    private int earlierChanges;
    private boolean inTransaction;
    private boolean off;

    public GraphKeep() {
        now = new Graph();
        atStatement = new Graph();
        kept = new Graph();
        log = new Log();
        tape = new Tape();
        goneNodes = new boolean[MOST_NODES];
        goneLinks = new boolean[MOST_LINKS];
    }

    public boolean type(long word, int n) {
        return tape.append(word, n);
    }

    public int node() throws ArithmeticException, IllegalStateException {
        mustBeOn();
        int n = freeNumber(NODE, goneNodes);
        countChange();
        now.putNode(n, new Node(new int[0], new Property[0]));
        return n;
    }

    public boolean label(int n, int label, boolean on) throws ArithmeticException, IllegalStateException {
        mustBeOn();
        Node node = wantedNode(n);
        if (node.isLabelled(label) == on) {
            return false;
        }
        if (on) {
            mustBeLess(node.labels.length, MOST_LABELS);
        }
        countChange();
        now.putNode(n, on ? node.withLabel(label) : node.withoutLabel(label));
        return true;
    }

    public boolean property(int thing, int n, int key, int kind, long v)
            throws ArithmeticException, IllegalStateException {
        mustBeOn();
        Thing holder = wantedThing(thing, n);
        mustBeValue(kind, v);
        if (kind == NO_KIND) {
            return dropProperty(holder, n, key);
        }
        byte[] text = kind == TEXT ? tape.pull() : new byte[0];
        long number = kind == TEXT ? text.length : v;
        return putProperty(holder, n, new Property(key, kind, number, text));
    }

    public int link(int start, int end, int type) throws ArithmeticException, IllegalStateException {
        mustBeOn();
        wantedNode(start);
        wantedNode(end);
        int n = freeNumber(LINK, goneLinks);
        countChange();
        now.putLink(n, new Link(start, end, type, new Property[0]));
        return n;
    }

    public void take(int thing, int n) throws ArithmeticException, IllegalStateException {
        mustBeOn();
        wantedThing(thing, n);
        if (thing == NODE) {
            takeNode(n);
        } else {
            takeLink(n);
        }
    }

    public int error() {
        return latestError;
    }

    public int done() throws ArithmeticException, IllegalStateException {
        mustBeOn();
        int had = statementChanges;
        if (!inTransaction && !log.hasRoom(had)) {
            undoStatement();
            latestError = NO_ROOM;
            throw new ArithmeticException("no room in the LOG");
        }
        if (!inTransaction) {
            keep(had);
        }
        closeStatement();
        return had;
    }

    public int undo() {
        int had = statementChanges;
        undoStatement();
        return had;
    }

    public boolean begin() {
        if (off || inTransaction) {
            return false;
        }
        undoStatement();
        inTransaction = true;
        return true;
    }

    public int commit() throws IllegalStateException {
        mustBeOn();
        if (!inTransaction) {
            return NONE;
        }
        closeStatement();
        int had = earlierChanges;
        if (!log.hasRoom(had)) {
            return LOG_FULL;
        }
        keep(had);
        forgetUnderWay();
        return Log.writesFor(had);
    }

    public boolean rollback() {
        if (!inTransaction) {
            return false;
        }
        restoreKept();
        return true;
    }

    public int checkpoint() throws IllegalStateException {
        mustBeOn();
        if (inTransaction || statementChanges > 0) {
            return NONE;
        }
        int writes = now.countNodes() + now.countLinks() + 1;
        if (!log.writeCheckpoint(writes)) {
            goOff();
            throw new IllegalStateException("the power failed at a WRITE of the CHECKPOINT");
        }
        return writes;
    }

    public boolean cut(int n) {
        if (off || n < 0 || n > FARTHEST_CUT) {
            return false;
        }
        log.failAt(n);
        return true;
    }

    public int recover() {
        off = false;
        restoreKept();
        return log.reopen();
    }

    public int thing(int thing, int n, int what) {
        Thing found = now.thingAt(thing, n);
        if (found == null) {
            return NONE;
        }
        if (what == 0) {
            return found.properties.length;
        }
        if (found instanceof Node node) {
            return nodeFact(node, n, what);
        }
        if (found instanceof Link link) {
            return linkFact(link, what);
        }
        return NONE;
    }

    public int chain(int n, boolean out, int k) {
        return now.linkInChain(n, out, k);
    }

    public boolean has(int n, int label) {
        Node node = now.nodeAt(n);
        return node != null && node.isLabelled(label);
    }

    public long value(int thing, int n, int key, int what) throws NoSuchElementException {
        Thing holder = now.thingAt(thing, n);
        if (holder == null) {
            throw new NoSuchElementException("no such thing");
        }
        Property property = holder.propertyOf(key);
        if (what == -1) {
            return property == null ? NO_KIND : property.kind;
        }
        if (property == null) {
            throw new NoSuchElementException("no such PROPERTY");
        }
        if (what == -2) {
            return property.number;
        }
        if (what < 0 || what >= property.text.length) {
            throw new NoSuchElementException("no such character");
        }
        return property.text[what];
    }

    public int state(int what) {
        switch (what) {
            case 0: return now.countNodes();
            case 1: return now.countLinks();
            case 2: return log.writes;
            case 3: return log.ended + log.loose;
            case 4: return off ? 1 : 0;
            case 5: return inTransaction ? 1 : 0;
            case 6: return earlierChanges + statementChanges;
            default: return NONE;
        }
    }

    private void mustBeOn() {
        if (off) {
            throw new IllegalStateException("the house is OFF");
        }
    }

    private void refuse(int newError) {
        latestError = newError;
        throw new ArithmeticException("an ERROR, which error() tells");
    }

    private Node wantedNode(int n) {
        Node node = now.nodeAt(n);
        if (node == null) {
            latestError = NO_SUCH_THING;
            throw new ArithmeticException("no such NODE");
        }
        return node;
    }

    private Thing wantedThing(int thing, int n) {
        Thing found = now.thingAt(thing, n);
        if (found == null) {
            latestError = NO_SUCH_THING;
            throw new ArithmeticException("no such thing");
        }
        return found;
    }

    private void mustBeValue(int kind, long v) {
        if (kind < NO_KIND || kind > TEXT || kind == TRUTH && v != 0 && v != 1) {
            refuse(NO_VALUE);
        }
    }

    private void mustBeLess(int count, int most) {
        if (count >= most) {
            refuse(TOO_MANY);
        }
    }

    private int freeNumber(int thing, boolean[] gone) {
        int n = 0;
        while (n < gone.length && (gone[n] || now.thingAt(thing, n) != null)) {
            n++;
        }
        mustBeLess(n, gone.length);
        return n;
    }

    private void countChange() {
        if (earlierChanges + statementChanges >= MOST_CHANGES) {
            refuse(NO_ROOM);
        }
        statementChanges++;
    }

    private boolean dropProperty(Thing holder, int n, int key) {
        if (holder.propertyOf(key) == null) {
            return false;
        }
        countChange();
        now.putAgain(holder, n, holder.propertiesWithout(key));
        return true;
    }

    private boolean putProperty(Thing holder, int n, Property property) {
        Property old = holder.propertyOf(property.key);
        if (old == null) {
            mustBeLess(holder.properties.length, MOST_PROPERTIES);
        } else if (old.isSameValue(property)) {
            return false;
        }
        countChange();
        now.putAgain(holder, n, holder.propertiesWith(property));
        return true;
    }

    private void takeNode(int n) {
        if (now.countChain(n, true) + now.countChain(n, false) > 0) {
            refuse(HAS_LINKS);
        }
        countChange();
        now.putNode(n, null);
        mark(goneNodes, n);
    }

    private void takeLink(int n) {
        countChange();
        now.putLink(n, null);
        mark(goneLinks, n);
    }

    private static void mark(boolean[] gone, int n) {
        if (n >= 0 && n < gone.length) {
            gone[n] = true;
        }
    }

    private void keep(int changes) {
        if (changes == 0) {
            return;
        }
        if (!log.writeTransaction(changes)) {
            goOff();
            throw new IllegalStateException("the power failed at a WRITE to the LOG");
        }
        kept.copyFrom(now);
    }

    private void goOff() {
        off = true;
        now.clear();
        forgetUnderWay();
    }

    private void closeStatement() {
        if (inTransaction) {
            earlierChanges += statementChanges;
        }
        if (statementChanges > 0) {
            atStatement.copyFrom(now);
        }
        startStatement();
    }

    private void undoStatement() {
        if (statementChanges > 0) {
            now.copyFrom(atStatement);
        }
        startStatement();
    }

    private void startStatement() {
        statementChanges = 0;
        for (int n = 0; n < goneNodes.length; n++) {
            goneNodes[n] = false;
        }
        for (int n = 0; n < goneLinks.length; n++) {
            goneLinks[n] = false;
        }
    }

    private void forgetUnderWay() {
        startStatement();
        earlierChanges = 0;
        inTransaction = false;
    }

    private void restoreKept() {
        now.copyFrom(kept);
        atStatement.copyFrom(kept);
        forgetUnderWay();
    }

    private int nodeFact(Node node, int n, int what) {
        switch (what) {
            case 1: return node.labels.length;
            case 2: return now.countChain(n, true);
            case 3: return now.countChain(n, false);
            default: return NONE;
        }
    }

    private static int linkFact(Link link, int what) {
        switch (what) {
            case 1: return link.start;
            case 2: return link.end;
            case 3: return link.type;
            default: return NONE;
        }
    }

    /** A KEY with its VALUE; number holds a text's length too. Never changed once made. */
    private static final class Property {
        final int key;
        final int kind;
        final long number;
        final byte[] text;

        Property(int key, int kind, long number, byte[] text) {
            this.key = key;
            this.kind = kind;
            this.number = number;
            this.text = text;
        }

        boolean isSameValue(Property other) {
            if (kind != other.kind || number != other.number || text.length != other.text.length) {
                return false;
            }
            for (int i = 0; i < text.length; i++) {
                if (text[i] != other.text[i]) {
                    return false;
                }
            }
            return true;
        }
    }

    /** A NODE or LINK as it stands. Never changed once made, so that several graphs may share it. */
    private abstract static class Thing {
        final Property[] properties;

        Thing(Property[] properties) {
            this.properties = properties;
        }

        Property propertyOf(int key) {
            int at = placeOf(key);
            return at < properties.length ? properties[at] : null;
        }

        Property[] propertiesWith(Property property) {
            int at = placeOf(property.key);
            int length = at < properties.length ? properties.length : properties.length + 1;
            Property[] with = new Property[length];
            for (int i = 0; i < length; i++) {
                with[i] = i == at ? property : properties[i];
            }
            return with;
        }

        Property[] propertiesWithout(int key) {
            int at = placeOf(key);
            if (at >= properties.length) {
                return properties;
            }
            Property[] without = new Property[properties.length - 1];
            for (int i = 0; i < without.length; i++) {
                without[i] = properties[i < at ? i : i + 1];
            }
            return without;
        }

        private int placeOf(int key) {
            int at = 0;
            while (at < properties.length && properties[at].key != key) {
                at++;
            }
            return at;
        }
    }

    private static final class Node extends Thing {
        final int[] labels;

        Node(int[] labels, Property[] properties) {
            super(properties);
            this.labels = labels;
        }

        boolean isLabelled(int label) {
            return placeOfLabel(label) < labels.length;
        }

        Node withLabel(int label) {
            int[] with = new int[labels.length + 1];
            for (int i = 0; i < labels.length; i++) {
                with[i] = labels[i];
            }
            with[labels.length] = label;
            return new Node(with, properties);
        }

        Node withoutLabel(int label) {
            int at = placeOfLabel(label);
            if (at >= labels.length) {
                return this;
            }
            int[] without = new int[labels.length - 1];
            for (int i = 0; i < without.length; i++) {
                without[i] = labels[i < at ? i : i + 1];
            }
            return new Node(without, properties);
        }

        private int placeOfLabel(int label) {
            int at = 0;
            while (at < labels.length && labels[at] != label) {
                at++;
            }
            return at;
        }
    }

    private static final class Link extends Thing {
        final int start;
        final int end;
        final int type;

        Link(int start, int end, int type, Property[] properties) {
            super(properties);
            this.start = start;
            this.end = end;
            this.type = type;
        }
    }

    /** What is at each number; null where there is none. */
    private static final class Graph {
        private final Node[] nodes = new Node[MOST_NODES];
        private final Link[] links = new Link[MOST_LINKS];

        Node nodeAt(int n) {
            return n >= 0 && n < nodes.length ? nodes[n] : null;
        }

        Link linkAt(int n) {
            return n >= 0 && n < links.length ? links[n] : null;
        }

        Thing thingAt(int thing, int n) {
            if (thing == NODE) {
                return nodeAt(n);
            }
            return thing == LINK ? linkAt(n) : null;
        }

        void putNode(int n, Node node) {
            if (n >= 0 && n < nodes.length) {
                nodes[n] = node;
            }
        }

        void putLink(int n, Link link) {
            if (n >= 0 && n < links.length) {
                links[n] = link;
            }
        }

        void putAgain(Thing holder, int n, Property[] properties) {
            if (holder instanceof Node node) {
                putNode(n, new Node(node.labels, properties));
            } else if (holder instanceof Link link) {
                putLink(n, new Link(link.start, link.end, link.type, properties));
            }
        }

        int countNodes() {
            int count = 0;
            for (int n = 0; n < nodes.length; n++) {
                count += nodes[n] == null ? 0 : 1;
            }
            return count;
        }

        int countLinks() {
            int count = 0;
            for (int n = 0; n < links.length; n++) {
                count += links[n] == null ? 0 : 1;
            }
            return count;
        }

        int countChain(int node, boolean out) {
            int count = 0;
            for (int n = 0; n < links.length; n++) {
                count += isInChain(n, node, out) ? 1 : 0;
            }
            return count;
        }

        int linkInChain(int node, boolean out, int k) {
            int before = 0;
            for (int n = 0; n < links.length; n++) {
                if (isInChain(n, node, out)) {
                    if (before == k) {
                        return n;
                    }
                    before++;
                }
            }
            return NONE;
        }

        private boolean isInChain(int n, int node, boolean out) {
            Link link = linkAt(n);
            return link != null && (out ? link.start : link.end) == node;
        }

        void copyFrom(Graph other) {
            for (int n = 0; n < nodes.length; n++) {
                nodes[n] = other.nodeAt(n);
            }
            for (int n = 0; n < links.length; n++) {
                links[n] = other.linkAt(n);
            }
        }

        void clear() {
            for (int n = 0; n < nodes.length; n++) {
                nodes[n] = null;
            }
            for (int n = 0; n < links.length; n++) {
                links[n] = null;
            }
        }
    }

    /** Counts what was written; what it said stands in the graph that is kept. */
    private static final class Log {
        int writes;
        int ended;
        int loose;
        private int transactions;
        private int writesTillFailure;

        static int writesFor(int changes) {
            return changes == 0 ? 0 : changes + 1;
        }

        boolean hasRoom(int changes) {
            return ended + writesFor(changes) <= LOG_ROOM;
        }

        void failAt(int n) {
            writesTillFailure = n;
        }

        boolean writeTransaction(int changes) {
            int wanted = writesFor(changes);
            int written = write(wanted);
            if (written < wanted) {
                loose = written;
                return false;
            }
            ended += wanted;
            transactions++;
            return true;
        }

        boolean writeCheckpoint(int wanted) {
            if (write(wanted) < wanted) {
                return false;
            }
            ended = 0;
            transactions = 0;
            return true;
        }

        int reopen() {
            loose = 0;
            writesTillFailure = 0;
            return transactions;
        }

        private int write(int wanted) {
            boolean fails = writesTillFailure > 0 && writesTillFailure <= wanted;
            int written = fails ? writesTillFailure - 1 : wanted;
            writesTillFailure = fails ? 0 : Math.max(0, writesTillFailure - wanted);
            writes += written;
            return written;
        }
    }

    /** The characters typed and not yet put into a text. */
    private static final class Tape {
        private final byte[] characters = new byte[MOST_CHARACTERS];
        private int length;

        boolean append(long word, int n) {
            if (n < 1 || n > 8 || length + n > characters.length) {
                return false;
            }
            for (int i = 0; i < n; i++) {
                if (byteOf(word, i) < 32 || byteOf(word, i) > 126) {
                    return false;
                }
            }
            for (int i = n - 1; i >= 0; i--) {
                characters[length] = (byte) byteOf(word, i);
                length++;
            }
            return true;
        }

        byte[] pull() {
            byte[] text = new byte[length];
            for (int i = 0; i < length; i++) {
                text[i] = characters[i];
            }
            length = 0;
            return text;
        }

        private static int byteOf(long word, int place) {
            return (int) (word >>> (8 * place)) & 0xff;
        }
    }
}
