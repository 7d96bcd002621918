import java.util.ArrayList;
import java.util.HashSet;
import java.util.List;
import java.util.NoSuchElementException;
import java.util.Set;
import java.util.TreeMap;
import java.util.TreeSet;

/**
 * The document told once more, another way than GraphKeep does: CHANGES are recorded, undone by doing
 * the others again, written one by one to a LOG, and recovered by replaying that LOG on the CHECKPOINT.
 */
final class Model implements Face {
    record Value(int kind, long number, String text) { }

    static final class Thing {
        int start;
        int end;
        int type;
        final Set<Integer> labels = new TreeSet<>();
        final TreeMap<Integer, Value> properties = new TreeMap<>();

        Thing copy() {
            Thing copy = new Thing();
            copy.start = start;
            copy.end = end;
            copy.type = type;
            copy.labels.addAll(labels);
            copy.properties.putAll(properties);
            return copy;
        }
    }

    static final class World {
        final TreeMap<Integer, Thing> nodes = new TreeMap<>();
        final TreeMap<Integer, Thing> links = new TreeMap<>();

        World copy() {
            World copy = new World();
            nodes.forEach((n, thing) -> copy.nodes.put(n, thing.copy()));
            links.forEach((n, thing) -> copy.links.put(n, thing.copy()));
            return copy;
        }

        TreeMap<Integer, Thing> of(int kind) {
            return kind == 4 ? nodes : kind == 5 ? links : new TreeMap<>();
        }
    }

    interface Change {
        void to(World world);
    }

    private static final class PowerFailure extends Exception {
        private static final long serialVersionUID = 1;
    }

    private static final Change END = world -> { };

    private World checkpoint = new World();
    private final List<Change> log = new ArrayList<>();
    private World base = new World();
    private World now = new World();
    private final List<Change> earlier = new ArrayList<>();
    private final List<Change> statement = new ArrayList<>();
    private final Set<Integer> goneNodes = new HashSet<>();
    private final Set<Integer> goneLinks = new HashSet<>();
    private String tape = "";
    private int error = 0;
    private int writes = 0;
    private int failing = 0;
    private boolean transaction = false;
    private boolean off = false;

    @Override
    public boolean type(long word, int n) {
        if (n < 1 || n > 8) {
            return false;
        }
        StringBuilder typed = new StringBuilder();
        for (int i = 0; i < n; i++) {
            typed.insert(0, (char) ((word >> (8 * i)) & 255));
        }
        if (typed.chars().anyMatch(c -> c < 32 || c > 126) || tape.length() + n > 24) {
            return false;
        }
        tape += typed;
        return true;
    }

    @Override
    public int node() {
        on();
        int n = free(now.nodes, goneNodes, 64);
        change(world -> world.nodes.put(n, new Thing()));
        return n;
    }

    @Override
    public boolean label(int n, int label, boolean on) {
        on();
        Set<Integer> labels = find(4, n).labels;
        if (labels.contains(label) == on) {
            return false;
        }
        if (on && labels.size() == 4) {
            fail(6);
        }
        if (on) {
            change(world -> world.nodes.get(n).labels.add(label));
        } else {
            change(world -> world.nodes.get(n).labels.remove(label));
        }
        return true;
    }

    @Override
    public boolean property(int kindOfThing, int n, int key, int kind, long v) {
        on();
        TreeMap<Integer, Value> properties = find(kindOfThing, n).properties;
        Value value = null;
        switch (kind) {
            case 0 -> { }
            case 1 -> value = new Value(1, v, "");
            case 2 -> {
                if (v != 0 && v != 1) {
                    fail(2);
                }
                value = new Value(2, v, "");
            }
            case 3 -> {
                value = new Value(3, tape.length(), tape);
                tape = "";
            }
            default -> fail(2);
        }
        Value old = properties.get(key);
        if (value == null ? old == null : value.equals(old)) {
            return false;
        }
        if (value != null && old == null && properties.size() == 6) {
            fail(6);
        }
        Value put = value;
        if (put == null) {
            change(world -> world.of(kindOfThing).get(n).properties.remove(key));
        } else {
            change(world -> world.of(kindOfThing).get(n).properties.put(key, put));
        }
        return true;
    }

    @Override
    public int link(int start, int end, int type) {
        on();
        find(4, start);
        find(4, end);
        int n = free(now.links, goneLinks, 96);
        change(world -> {
            Thing link = new Thing();
            link.start = start;
            link.end = end;
            link.type = type;
            world.links.put(n, link);
        });
        return n;
    }

    @Override
    public void take(int kind, int n) {
        on();
        find(kind, n);
        if (kind == 4 && now.links.values().stream().anyMatch(link -> link.start == n || link.end == n)) {
            fail(7);
        }
        change(world -> world.of(kind).remove(n));
        (kind == 4 ? goneNodes : goneLinks).add(n);
    }

    @Override
    public int error() {
        return error;
    }

    @Override
    public int done() {
        on();
        int had = statement.size();
        if (!transaction && had > 0) {
            if (log.size() + had + 1 > 250) {
                undo();
                fail(9);
            }
            write(statement);
        }
        closeStatement();
        return had;
    }

    @Override
    public int undo() {
        int had = statement.size();
        if (!off) {
            statement.clear();
            replay();
        }
        return had;
    }

    @Override
    public boolean begin() {
        if (off || transaction) {
            return false;
        }
        undo();
        transaction = true;
        return true;
    }

    @Override
    public int commit() {
        on();
        if (!transaction) {
            return -1;
        }
        closeStatement();
        int size = earlier.isEmpty() ? 0 : earlier.size() + 1;
        if (size > 0) {
            if (log.size() + size > 250) {
                return -2;
            }
            write(earlier);
        }
        transaction = false;
        base = now.copy();
        earlier.clear();
        return size;
    }

    @Override
    public boolean rollback() {
        if (!transaction) {
            return false;
        }
        transaction = false;
        earlier.clear();
        statement.clear();
        replay();
        return true;
    }

    @Override
    public int checkpoint() {
        on();
        if (transaction || !statement.isEmpty()) {
            return -1;
        }
        int size = now.nodes.size() + now.links.size() + 1;
        try {
            for (int i = 0; i < size; i++) {
                writeOne(null);
            }
        } catch (PowerFailure e) {
            goOff();
            throw new IllegalStateException();
        }
        checkpoint = now.copy();
        log.clear();
        return size;
    }

    @Override
    public boolean cut(int n) {
        if (off || n < 0 || n > 2000) {
            return false;
        }
        failing = n;
        return true;
    }

    @Override
    public int recover() {
        int ends = 0;
        int lastEnd = 0;
        for (int i = 0; i < log.size(); i++) {
            if (log.get(i) == END) {
                ends++;
                lastEnd = i + 1;
            }
        }
        log.subList(lastEnd, log.size()).clear();
        base = checkpoint.copy();
        log.forEach(change -> change.to(base));
        off = false;
        failing = 0;
        transaction = false;
        earlier.clear();
        statement.clear();
        replay();
        return ends;
    }

    @Override
    public int thing(int kind, int n, int what) {
        Thing thing = now.of(kind).get(n);
        if (thing == null) {
            return -1;
        }
        return switch (what) {
            case 0 -> thing.properties.size();
            case 1 -> kind == 4 ? thing.labels.size() : thing.start;
            case 2 -> kind == 4 ? chain(n, true).size() : thing.end;
            case 3 -> kind == 4 ? chain(n, false).size() : thing.type;
            default -> -1;
        };
    }

    @Override
    public int chain(int n, boolean out, int k) {
        List<Integer> chain = chain(n, out);
        return k >= 0 && k < chain.size() ? chain.get(k) : -1;
    }

    @Override
    public boolean has(int n, int label) {
        return now.nodes.containsKey(n) && now.nodes.get(n).labels.contains(label);
    }

    @Override
    public long value(int kind, int n, int key, int what) {
        Thing thing = now.of(kind).get(n);
        if (thing == null) {
            throw new NoSuchElementException();
        }
        Value value = thing.properties.get(key);
        if (what == -1) {
            return value == null ? 0 : value.kind();
        }
        if (value == null || what < -2 || what >= value.text().length()) {
            throw new NoSuchElementException();
        }
        return what == -2 ? value.number() : value.text().charAt(what);
    }

    @Override
    public int state(int what) {
        return switch (what) {
            case 0 -> now.nodes.size();
            case 1 -> now.links.size();
            case 2 -> writes;
            case 3 -> log.size();
            case 4 -> off ? 1 : 0;
            case 5 -> transaction ? 1 : 0;
            case 6 -> earlier.size() + statement.size();
            default -> -1;
        };
    }

    private List<Integer> chain(int n, boolean out) {
        List<Integer> chain = new ArrayList<>();
        now.links.forEach((number, link) -> {
            if ((out ? link.start : link.end) == n) {
                chain.add(number);
            }
        });
        return chain;
    }

    private void on() {
        if (off) {
            throw new IllegalStateException();
        }
    }

    private void fail(int newError) {
        error = newError;
        throw new ArithmeticException();
    }

    private Thing find(int kind, int n) {
        if (!now.of(kind).containsKey(n)) {
            fail(8);
        }
        return now.of(kind).get(n);
    }

    private int free(TreeMap<Integer, Thing> things, Set<Integer> gone, int most) {
        for (int n = 0; n < most; n++) {
            if (!things.containsKey(n) && !gone.contains(n)) {
                return n;
            }
        }
        fail(6);
        return -1;
    }

    private void change(Change change) {
        if (earlier.size() + statement.size() == 249) {
            fail(9);
        }
        change.to(now);
        statement.add(change);
    }

    private void closeStatement() {
        if (transaction) {
            earlier.addAll(statement);
        } else {
            base = now.copy();
        }
        statement.clear();
        goneNodes.clear();
        goneLinks.clear();
    }

    private void replay() {
        now = base.copy();
        earlier.forEach(change -> change.to(now));
        statement.forEach(change -> change.to(now));
        goneNodes.clear();
        goneLinks.clear();
    }

    private void write(List<Change> changes) {
        try {
            for (Change change : changes) {
                writeOne(change);
            }
            writeOne(END);
        } catch (PowerFailure e) {
            goOff();
            throw new IllegalStateException();
        }
    }

    private void writeOne(Change toLog) throws PowerFailure {
        if (failing == 1) {
            throw new PowerFailure();
        }
        failing = failing > 0 ? failing - 1 : 0;
        writes++;
        if (toLog != null) {
            log.add(toLog);
        }
    }

    private void goOff() {
        off = true;
        base = new World();
        transaction = false;
        earlier.clear();
        statement.clear();
        replay();
    }
}
