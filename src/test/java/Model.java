import java.util.ArrayList;
import java.util.List;
import java.util.Map;
import java.util.NoSuchElementException;
import java.util.Set;
import java.util.TreeMap;
import java.util.TreeSet;

/**
 * The document read a second time, word by word, with sets and recursion where the program has
 * bits and rounds: what both readings answer alike is less likely to be a slip.
 */
final class Model {
    private static final class Edge {
        int command;
        int flags;
        int pool;
        int step;
        Set<Integer> outputs = new TreeSet<>();
        Map<Integer, Integer> kinds = new TreeMap<>();
        Set<Integer> reads = new TreeSet<>();
        Set<Integer> recorded;

        boolean is(int flag) {
            return (flags & flag) != 0;
        }

        Set<Integer> linked(int lastKind) {
            Set<Integer> files = new TreeSet<>();
            for (Map.Entry<Integer, Integer> link : kinds.entrySet()) {
                if (link.getValue() <= lastKind) {
                    files.add(link.getKey());
                }
            }
            return files;
        }

        Set<Integer> needs() {
            return linked(2);
        }

        Set<Integer> waits() {
            return linked(3);
        }

        boolean isPending() {
            return step == 1 || step == 2 || step == 4;
        }
    }

    private final List<Edge> edges = new ArrayList<>();
    private final Map<Integer, int[]> files = new TreeMap<>();
    private final List<Integer> log = new ArrayList<>();
    private final Map<Integer, int[]> counting = new TreeMap<>();
    private final int[] depth = {0, 1, 1};
    private int clock;
    private int jobs;
    private int fail;
    private int state;
    /** How often the log was written anew, for the test to see that it came so far. */
    int anew;

    int edge(int command, int flags, int pool) {
        boolean phonyAlone = flags % 2 == 0 || flags == 1;
        argument(command >= 0 && command < 65536 && flags >= 0 && flags < 16 && phonyAlone
                && pool >= 0 && pool < 3);
        state(edges.size() < 12 && state != 1);
        Edge made = new Edge();
        made.command = command;
        made.flags = flags;
        made.pool = pool;
        edges.add(made);
        return edges.size() - 1;
    }

    void link(int e, int kind, int f) {
        argument(isEdge(e) && kind >= 0 && kind < 4 && isFile(f));
        state(state != 1);
        Edge edge = edges.get(e);
        if (kind == 0) {
            state(maker(f) == null);
            for (Edge other : edges) {
                state(!other.reads.contains(f));
            }
            state(!(edge.is(1) && files.containsKey(f)));
            edge.kinds.remove(f);
            edge.outputs.add(f);
        } else {
            edge.kinds.put(f, kind);
        }
    }

    void reads(int e, int f, boolean is) {
        argument(isEdge(e) && isFile(f));
        Edge edge = edges.get(e);
        argument(!edge.is(1));
        state(state != 1 && maker(f) == null && edge.reads.contains(f) != is);
        if (is) {
            edge.reads.add(f);
        } else {
            edge.reads.remove(f);
        }
        edge.command = (edge.command + 1) % 65536;
    }

    void command(int e, int c) {
        argument(isEdge(e) && c >= 0 && c < 65536);
        state(state != 1);
        edges.get(e).command = c;
    }

    void pool(int p, int d) {
        argument((p == 1 || p == 2) && d >= 1 && d <= 4);
        state(state != 1);
        depth[p] = d;
    }

    void write(int f, int content) {
        argument(isFile(f) && (maker(f) == null || !maker(f).is(1)));
        state(state != 1);
        put(f, content);
    }

    void remove(int f) {
        argument(isFile(f));
        element(files.containsKey(f));
        state(state != 1);
        files.remove(f);
    }

    int begin(int targets, int jobCount, int failCount) {
        argument(targets > 0 && targets < 1 << 24 && jobCount >= 1 && jobCount <= 4
                && failCount >= 1 && failCount <= 4);
        state(state != 1);
        List<Edge> order = new ArrayList<>();
        Set<Integer> wanted = new TreeSet<>();
        for (int f = 0; f < 24; f++) {
            if ((targets & 1 << f) != 0) {
                wanted.add(f);
                if (maker(f) != null) {
                    visit(maker(f), order, new ArrayList<>());
                }
            }
        }
        for (Edge edge : order) {
            wanted.addAll(edge.waits());
        }
        for (int f : wanted) {
            element(maker(f) != null || files.containsKey(f));
        }
        for (Edge edge : edges) {
            edge.step = 0;
        }
        jobs = jobCount;
        fail = failCount;
        int toRun = 0;
        for (Edge edge : order) {
            if (isOutOfDate(edge)) {
                edge.step = 1;
                toRun++;
            }
        }
        look();
        return toRun;
    }

    int start() {
        int e = state == 1 ? canBegin() : -1;
        if (e >= 0) {
            edges.get(e).step = 2;
        }
        return e;
    }

    int finish(int e, boolean well) {
        element(isEdge(e) && edges.get(e).step == 2);
        Edge edge = edges.get(e);
        int gone = 0;
        if (well) {
            writeOutputs(edge);
            if (edge.is(8)) {
                edge.recorded = new TreeSet<>(edge.reads);
            }
            for (int f : edge.outputs) {
                append(f, edge.command, newest(edge));
            }
            edge.step = 3;
            while (letOneGo()) {
                gone++;
            }
        } else {
            edge.step = 4;
        }
        look();
        return gone;
    }

    int state() {
        return state;
    }

    int about(int e) {
        argument(isEdge(e));
        return edges.get(e).step;
    }

    int file(int f, int what) {
        argument(isFile(f) && what >= 0 && what < 4);
        if (what < 2) {
            return files.containsKey(f) ? files.get(f)[what] : 0;
        }
        return counting.containsKey(f) ? counting.get(f)[what - 2] : -1;
    }

    int commandOf(int e) {
        argument(isEdge(e));
        return edges.get(e).command;
    }

    int log(int k) {
        return k >= 0 && k < log.size() ? log.get(k) : -1;
    }

    int cut(int n) {
        argument(n >= 0);
        state(state != 1);
        while (log.size() > n) {
            log.remove(log.size() - 1);
        }
        counting.clear();
        int kept = 0;
        while (kept + 8 <= log.size() && isRight(log.subList(kept, kept + 8))) {
            List<Integer> record = log.subList(kept, kept + 8);
            int time = 0;
            for (int k = 3; k < 7; k++) {
                time = time * 256 + record.get(k);
            }
            counting.put(record.get(0), new int[] {time, record.get(1) * 256 + record.get(2)});
            kept += 8;
        }
        while (log.size() > kept) {
            log.remove(log.size() - 1);
        }
        for (Edge edge : edges) {
            edge.recorded = null;
            edge.step = 0;
        }
        state = 0;
        return kept;
    }

    boolean spoil(int k, int b) {
        if (k < 0 || k >= log.size()) {
            return false;
        }
        log.set(k, Math.floorMod(b, 256));
        return true;
    }

    private static void argument(boolean right) {
        if (!right) {
            throw new IllegalArgumentException();
        }
    }

    private static void state(boolean right) {
        if (!right) {
            throw new IllegalStateException();
        }
    }

    private static void element(boolean right) {
        if (!right) {
            throw new NoSuchElementException();
        }
    }

    private static boolean isFile(int f) {
        return f >= 0 && f < 24;
    }

    private boolean isEdge(int e) {
        return e >= 0 && e < edges.size();
    }

    private Edge maker(int f) {
        for (Edge edge : edges) {
            if (edge.outputs.contains(f)) {
                return edge;
            }
        }
        return null;
    }

    private int timeOf(int f) {
        return files.containsKey(f) ? files.get(f)[1] : 0;
    }

    private void put(int f, int content) {
        clock++;
        files.put(f, new int[] {content, clock});
    }

    private void visit(Edge edge, List<Edge> order, List<Edge> open) {
        if (order.contains(edge)) {
            return;
        }
        if (open.contains(edge)) {
            throw new UnsupportedOperationException();
        }
        open.add(edge);
        for (int f : edge.waits()) {
            if (maker(f) != null) {
                visit(maker(f), order, open);
            }
        }
        open.remove(edge);
        order.add(edge);
    }

    private int newest(Edge edge) {
        int newest = 0;
        for (int f : edge.needs()) {
            boolean byPhony = maker(f) != null && maker(f).is(1);
            newest = Math.max(newest, byPhony ? newest(maker(f)) : timeOf(f));
        }
        if (edge.recorded != null) {
            for (int f : edge.recorded) {
                newest = Math.max(newest, timeOf(f));
            }
        }
        return newest;
    }

    private boolean isDirty(Edge edge) {
        return edge.is(1) ? needsDirty(edge) : edge.isPending();
    }

    private boolean needsDirty(Edge edge) {
        for (int f : edge.needs()) {
            if (maker(f) != null && isDirty(maker(f))) {
                return true;
            }
        }
        return false;
    }

    private boolean isOutOfDate(Edge edge) {
        if (edge.is(1)) {
            return false;
        }
        if (needsDirty(edge) || !files.keySet().containsAll(edge.outputs)) {
            return true;
        }
        if (edge.recorded != null && !files.keySet().containsAll(edge.recorded)) {
            return true;
        }
        if (edge.is(8) && edge.recorded == null) {
            return true;
        }
        for (int f : edge.outputs) {
            int[] record = counting.get(f);
            if (!edge.is(4) && (record == null || record[1] != edge.command)) {
                return true;
            }
            boolean saved = edge.is(2) && record != null && record[0] >= newest(edge);
            if (newest(edge) > timeOf(f) && !saved) {
                return true;
            }
        }
        return false;
    }

    private boolean isBlocked(Edge edge) {
        for (int f : edge.waits()) {
            Edge maker = maker(f);
            if (maker != null && (maker.is(1) ? isBlocked(maker) : maker.isPending())) {
                return true;
            }
        }
        return false;
    }

    private int canBegin() {
        int running = 0;
        int failed = 0;
        int[] ofPool = new int[3];
        for (Edge edge : edges) {
            if (edge.step == 2) {
                running++;
                ofPool[edge.pool]++;
            }
            if (edge.step == 4) {
                failed++;
            }
        }
        for (int e = 0; e < edges.size(); e++) {
            Edge edge = edges.get(e);
            boolean room = edge.pool == 0 || ofPool[edge.pool] < depth[edge.pool];
            if (edge.step == 1 && !isBlocked(edge) && running < jobs && room && failed < fail) {
                return e;
            }
        }
        return -1;
    }

    private void look() {
        boolean runs = false;
        boolean well = true;
        for (Edge edge : edges) {
            runs |= edge.step == 2;
            well &= edge.step != 1 && edge.step != 4;
        }
        state = runs || canBegin() >= 0 ? 1 : well ? 2 : 3;
    }

    private boolean letOneGo() {
        for (Edge edge : edges) {
            if (edge.step == 1 && !isOutOfDate(edge)) {
                edge.step = 5;
                return true;
            }
        }
        return false;
    }

    private static int mix(int h, int x) {
        int g = (h ^ x) * 73244475;
        return g ^ (g >>> 15);
    }

    private void writeOutputs(Edge edge) {
        int h = edge.is(4) ? 17 : edge.command;
        Set<Integer> read = new TreeSet<>(edge.needs());
        read.addAll(edge.reads);
        for (int f : read) {
            h = mix(mix(h, f), file(f, 0));
        }
        for (int f : edge.outputs) {
            boolean same = files.containsKey(f) && files.get(f)[0] == mix(h, f);
            if (!(edge.is(2) && same)) {
                put(f, mix(h, f));
            }
        }
    }

    private void append(int f, int command, int time) {
        if (log.size() == 400) {
            anew++;
            log.clear();
            for (Map.Entry<Integer, int[]> one : counting.entrySet()) {
                addBytes(one.getKey(), one.getValue()[1], one.getValue()[0]);
            }
        }
        counting.put(f, new int[] {time, command});
        addBytes(f, command, time);
    }

    private void addBytes(int f, int command, int time) {
        int[] record = {f, command / 256, command % 256, time >>> 24, time >>> 16 & 255,
            time >>> 8 & 255, time & 255};
        int sum = 0;
        for (int b : record) {
            log.add(b);
            sum += b;
        }
        log.add(sum % 251);
    }

    private static boolean isRight(List<Integer> record) {
        int sum = 0;
        for (int b : record.subList(0, 7)) {
            sum += b;
        }
        return record.get(7) == sum % 251 && record.get(0) < 24;
    }
}
