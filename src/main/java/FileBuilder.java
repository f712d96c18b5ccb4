import java.util.Arrays;
import java.util.NoSuchElementException;

/**
 * Builds files out of others by the commands of edges. Sets of files and of edges are held as bits
 * of an int, so that no call has to make an object.
 */
public final class FileBuilder {
    public static final int NONE = -1;

    private static final int FILES = 24;
    private static final int ALL_FILES = (1 << FILES) - 1;
    private static final int EDGES = 12;
    private static final int LAST_COMMAND = 65535;
    private static final int POOLS = 2;
    private static final int MOST = 4;

    private static final int PHONY = 1;
    private static final int RESTAT = 2;
    private static final int GENERATOR = 4;
    private static final int READER = 8;
    private static final int ALL_FLAGS = 15;

    private static final int OUTPUT = 0;
    private static final int INPUT = 1;
    private static final int IMPLICIT = 2;
    private static final int ORDER_ONLY = 3;
    private static final int KINDS = 4;

    private static final int NOT_TO_RUN = 0;
    private static final int TO_RUN = 1;
    private static final int RUNS = 2;
    private static final int ENDED_WELL = 3;
    private static final int FAILED = 4;
    private static final int LET_GO = 5;

    private static final int NO_BUILD = 0;
    private static final int UNDER_WAY = 1;
    private static final int OVER_WELL = 2;
    private static final int OVER_OTHERWISE = 3;

    private static final int GENERATOR_START = 17;
    private static final int MIX_FACTOR = 73244475;

    private final Disk disk;
    private final Graph graph;
    private final Readings readings;
    private final RecordLog records;
    private final Build build;
    private final int[] depths;

    public FileBuilder() {
        disk = new Disk();
        graph = new Graph();
        readings = new Readings();
        records = new RecordLog();
        build = new Build();
        depths = new int[POOLS + 1];
        Arrays.fill(depths, 1);
    }

    public int edge(int command, int flags, int pool)
            throws IllegalArgumentException, IllegalStateException {
        if (!isCommand(command) || !areFlags(flags) || !isIn(pool, 0, POOLS)) {
            throw new IllegalArgumentException("no such command, flags or pool");
        }
        if (graph.count >= EDGES || build.isUnderWay()) {
            throw new IllegalStateException("twelve edges, or a build is under way");
        }
        return graph.addEdge(command, flags, pool);
    }

    public void link(int e, int kind, int f)
            throws IllegalArgumentException, IllegalStateException {
        if (!graph.hasEdge(e) || !isIn(kind, OUTPUT, ORDER_ONLY) || !isFile(f)) {
            throw new IllegalArgumentException("no such edge, kind or file");
        }
        if (build.isUnderWay() || kind == OUTPUT && !mayBecomeOutput(e, f)) {
            throw new IllegalStateException("no such link now");
        }
        graph.join(e, kind, f);
    }

    public void reads(int e, int f, boolean is)
            throws IllegalArgumentException, IllegalStateException {
        if (!graph.hasEdge(e) || !isFile(f) || graph.isPhony(e)) {
            throw new IllegalArgumentException("no such edge or file, or a phony");
        }
        if (build.isUnderWay() || has(graph.made(), f) || has(graph.readBy[e], f) == is) {
            throw new IllegalStateException("a build is under way, or the file is made, or it is so");
        }
        graph.readBy[e] ^= 1 << f;
        graph.commands[e] = graph.commands[e] == LAST_COMMAND ? 0 : graph.commands[e] + 1;
    }

    public void command(int e, int c) throws IllegalArgumentException, IllegalStateException {
        if (!graph.hasEdge(e) || !isCommand(c)) {
            throw new IllegalArgumentException("no such edge or command");
        }
        refuseUnderWay();
        graph.commands[e] = c;
    }

    public void pool(int p, int d) throws IllegalArgumentException, IllegalStateException {
        if (!isIn(p, 1, POOLS) || !isIn(d, 1, MOST)) {
            throw new IllegalArgumentException("no such pool or depth");
        }
        refuseUnderWay();
        depths[p] = d;
    }

    public void write(int f, int content) throws IllegalArgumentException, IllegalStateException {
        if (!isFile(f) || has(graph.madeByPhonies(), f)) {
            throw new IllegalArgumentException("no such file, or a phony makes it");
        }
        refuseUnderWay();
        disk.put(f, content);
    }

    public void remove(int f)
            throws IllegalArgumentException, NoSuchElementException, IllegalStateException {
        if (!isFile(f)) {
            throw new IllegalArgumentException("no such file");
        }
        if (!has(disk.there, f)) {
            throw new NoSuchElementException("the file is not there");
        }
        refuseUnderWay();
        disk.erase(f);
    }

    public int begin(int targets, int jobs, int fail)
            throws IllegalArgumentException, IllegalStateException, UnsupportedOperationException,
            NoSuchElementException {
        if (targets == 0 || (targets & ~ALL_FILES) != 0
                || !isIn(jobs, 1, MOST) || !isIn(fail, 1, MOST)) {
            throw new IllegalArgumentException("no such targets, jobs or fail");
        }
        refuseUnderWay();
        int reached = graph.reachedFrom(targets);
        if (graph.hasCycle(reached)) {
            throw new UnsupportedOperationException("a cycle");
        }
        if (isMissing(targets | graph.waitedForBy(reached))) {
            throw new NoSuchElementException("a file is missing");
        }
        build.renew(jobs, fail);
        findWhatIsToRun(reached);
        settle();
        return build.countAt(TO_RUN);
    }

    public int start() {
        // An over build stays over, whatever is linked afterwards.
        int e = build.isUnderWay() ? nextToBegin() : NONE;
        if (e != NONE) {
            build.steps[e] = RUNS;
        }
        return e;
    }

    public int finish(int e, boolean well) throws NoSuchElementException {
        if (!graph.hasEdge(e) || build.steps[e] != RUNS) {
            throw new NoSuchElementException("the edge does not run");
        }
        int gone = 0;
        if (well) {
            endWell(e);
            gone = letGo();
        } else {
            build.steps[e] = FAILED;
        }
        settle();
        return gone;
    }

    public int state() {
        return build.stage;
    }

    public int about(int e) throws IllegalArgumentException {
        refuseUnknownEdge(e);
        return build.steps[e];
    }

    public int file(int f, int what) throws IllegalArgumentException {
        if (!isFile(f)) {
            throw new IllegalArgumentException("no such file");
        }
        switch (what) {
            case 0:
                return disk.contents[f];
            case 1:
                return disk.times[f];
            case 2:
                return records.hasRecord(f) ? records.times[f] : NONE;
            case 3:
                return records.commands[f];
            default:
                throw new IllegalArgumentException("no such what");
        }
    }

    public int commandOf(int e) throws IllegalArgumentException {
        refuseUnknownEdge(e);
        return graph.commands[e];
    }

    public int log(int k) {
        return records.hasByte(k) ? records.bytes[k] : NONE;
    }

    public int cut(int n) throws IllegalArgumentException, IllegalStateException {
        if (n < 0) {
            throw new IllegalArgumentException("fewer bytes than none");
        }
        refuseUnderWay();
        records.readAgain(n);
        readings.forget();
        build.forget();
        return records.length;
    }

    public boolean spoil(int k, int b) {
        if (!records.hasByte(k)) {
            return false;
        }
        records.bytes[k] = b & 255;
        return true;
    }

    private static boolean isIn(int x, int low, int high) {
        return x >= low && x <= high;
    }

    private static boolean isFile(int f) {
        return isIn(f, 0, FILES - 1);
    }

    private static boolean isCommand(int c) {
        return isIn(c, 0, LAST_COMMAND);
    }

    private static boolean areFlags(int flags) {
        return isIn(flags, 0, ALL_FLAGS) && ((flags & PHONY) == 0 || flags == PHONY);
    }

    private static boolean has(int set, int member) {
        return (set >>> member & 1) != 0;
    }

    private static int mix(int h, int x) {
        int g = (h ^ x) * MIX_FACTOR;
        return g ^ (g >>> 15);
    }

    private void refuseUnderWay() {
        if (build.isUnderWay()) {
            throw new IllegalStateException("a build is under way");
        }
    }

    private void refuseUnknownEdge(int e) {
        if (!graph.hasEdge(e)) {
            throw new IllegalArgumentException("no such edge");
        }
    }

    private boolean mayBecomeOutput(int e, int f) {
        return !has(graph.made(), f) && !has(graph.read(), f)
                && !(graph.isPhony(e) && has(disk.there, f));
    }

    private boolean isMissing(int files) {
        return (files & ~graph.made() & ~disk.there) != 0;
    }

    private void findWhatIsToRun(int reached) {
        int looked = 0;
        for (int n = 0; n < EDGES; n++) {
            int e = graph.nextToLookAt(reached, looked);
            if (e == NONE) {
                return;
            }
            looked |= 1 << e;
            if (isOutOfDate(e)) {
                build.steps[e] = TO_RUN;
            }
        }
    }

    private boolean isOutOfDate(int e) {
        if (graph.isPhony(e)) {
            return false;
        }
        return isMadeByPending(graph.behind(e, false))
                || (graph.links[OUTPUT][e] & ~disk.there) != 0
                || (readings.recorded[e] & ~disk.there) != 0
                || graph.hasFlag(e, READER) && !readings.known[e]
                || !graph.hasFlag(e, GENERATOR) && isUnknownToLog(e)
                || isOlderThan(newest(e), e);
    }

    private boolean isUnknownToLog(int e) {
        for (int f = 0; f < FILES; f++) {
            // No record stands as the command NONE, which is no edge's command.
            if (has(graph.links[OUTPUT][e], f) && records.commands[f] != graph.commands[e]) {
                return true;
            }
        }
        return false;
    }

    private boolean isOlderThan(int newest, int e) {
        for (int f = 0; f < FILES; f++) {
            if (has(graph.links[OUTPUT][e], f) && newest > disk.times[f]
                    && !(graph.hasFlag(e, RESTAT) && records.reaches(f, newest))) {
                return true;
            }
        }
        return false;
    }

    private int newest(int e) {
        return disk.greatestTime(graph.behind(e, false) | readings.recorded[e]);
    }

    private boolean isMadeByPending(int files) {
        for (int e = 0; e < graph.count; e++) {
            if (build.isPending(e) && (graph.links[OUTPUT][e] & files) != 0) {
                return true;
            }
        }
        return false;
    }

    private int nextToBegin() {
        if (build.countAt(RUNS) >= build.jobs || build.countAt(FAILED) >= build.fail) {
            return NONE;
        }
        for (int e = 0; e < graph.count; e++) {
            if (build.steps[e] == TO_RUN && hasRoomInPool(e)
                    && !isMadeByPending(graph.behind(e, true))) {
                return e;
            }
        }
        return NONE;
    }

    private boolean hasRoomInPool(int e) {
        int p = graph.pools[e];
        if (p == 0) {
            return true;
        }
        int running = 0;
        for (int other = 0; other < graph.count; other++) {
            if (graph.pools[other] == p && build.steps[other] == RUNS) {
                running++;
            }
        }
        return running < depths[p];
    }

    private void settle() {
        if (build.countAt(RUNS) > 0 || nextToBegin() != NONE) {
            build.stage = UNDER_WAY;
        } else if (build.countAt(TO_RUN) > 0 || build.countAt(FAILED) > 0) {
            build.stage = OVER_OTHERWISE;
        } else {
            build.stage = OVER_WELL;
        }
    }

    private void endWell(int e) {
        writeOutputs(e);
        if (graph.hasFlag(e, READER)) {
            readings.keep(e, graph.readBy[e]);
        }
        int newest = newest(e);
        for (int f = 0; f < FILES; f++) {
            if (has(graph.links[OUTPUT][e], f)) {
                records.append(f, graph.commands[e], newest);
            }
        }
        build.steps[e] = ENDED_WELL;
    }

    private void writeOutputs(int e) {
        int h = mixOfWhatIsRead(e);
        for (int f = 0; f < FILES; f++) {
            if (!has(graph.links[OUTPUT][e], f)) {
                continue;
            }
            int content = mix(h, f);
            boolean stays = graph.hasFlag(e, RESTAT) && has(disk.there, f)
                    && disk.contents[f] == content;
            if (!stays) {
                disk.put(f, content);
            }
        }
    }

    private int mixOfWhatIsRead(int e) {
        int h = graph.hasFlag(e, GENERATOR) ? GENERATOR_START : graph.commands[e];
        int files = graph.needs(e) | graph.readBy[e];
        for (int f = 0; f < FILES; f++) {
            if (has(files, f)) {
                h = mix(mix(h, f), disk.contents[f]);
            }
        }
        return h;
    }

    private int letGo() {
        int gone = 0;
        // An edge let go may free one of a lower number, so the row is gone through again.
        for (int round = 0; round < EDGES; round++) {
            int before = gone;
            for (int e = 0; e < graph.count; e++) {
                if (build.steps[e] == TO_RUN && !isOutOfDate(e)) {
                    build.steps[e] = LET_GO;
                    gone++;
                }
            }
            if (gone == before) {
                return gone;
            }
        }
        return gone;
    }

    private static final class Disk {
        private final int[] contents;
        private final int[] times;
        private int clock;
        private int there;

        private Disk() {
            contents = new int[FILES];
            times = new int[FILES];
        }

        private void put(int f, int content) {
            clock++;
            contents[f] = content;
            times[f] = clock;
            there |= 1 << f;
        }

        private void erase(int f) {
            contents[f] = 0;
            times[f] = 0;
            there &= ~(1 << f);
        }

        private int greatestTime(int files) {
            int greatest = 0;
            for (int f = 0; f < FILES; f++) {
                if (has(files, f)) {
                    greatest = Math.max(greatest, times[f]);
                }
            }
            return greatest;
        }
    }

    private static final class Graph {
        private final int[] commands;
        private final int[] flags;
        private final int[] pools;
        private final int[] readBy;
        private final int[][] links;
        private int count;

        private Graph() {
            commands = new int[EDGES];
            flags = new int[EDGES];
            pools = new int[EDGES];
            readBy = new int[EDGES];
            links = new int[KINDS][EDGES];
        }

        private int addEdge(int command, int flagBits, int pool) {
            int e = count;
            commands[e] = command;
            flags[e] = flagBits;
            pools[e] = pool;
            count++;
            return e;
        }

        private boolean hasEdge(int e) {
            return isIn(e, 0, count - 1);
        }

        private boolean hasFlag(int e, int flag) {
            return (flags[e] & flag) != 0;
        }

        private boolean isPhony(int e) {
            return hasFlag(e, PHONY);
        }

        private void join(int e, int kind, int f) {
            for (int other = INPUT; other <= ORDER_ONLY; other++) {
                links[other][e] &= ~(1 << f);
            }
            links[kind][e] |= 1 << f;
        }

        private int needs(int e) {
            return links[INPUT][e] | links[IMPLICIT][e];
        }

        private int waits(int e) {
            return needs(e) | links[ORDER_ONLY][e];
        }

        private int made() {
            int set = 0;
            for (int e = 0; e < count; e++) {
                set |= links[OUTPUT][e];
            }
            return set;
        }

        private int madeByPhonies() {
            int set = 0;
            for (int e = 0; e < count; e++) {
                if (isPhony(e)) {
                    set |= links[OUTPUT][e];
                }
            }
            return set;
        }

        private int read() {
            int set = 0;
            for (int e = 0; e < count; e++) {
                set |= readBy[e];
            }
            return set;
        }

        /**
         * What an edge needs, or waits for, and what the phonies that make some of it do in turn:
         * a phony is only as new, as dirty and as blocked as what stands behind it.
         */
        private int behind(int e, boolean orderOnlyToo) {
            int set = orderOnlyToo ? waits(e) : needs(e);
            for (int round = 0; round < EDGES; round++) {
                int before = set;
                for (int p = 0; p < count; p++) {
                    if (isPhony(p) && (links[OUTPUT][p] & set) != 0) {
                        set |= orderOnlyToo ? waits(p) : needs(p);
                    }
                }
                if (set == before) {
                    return set;
                }
            }
            return set;
        }

        private int makersOf(int files) {
            int set = 0;
            for (int e = 0; e < count; e++) {
                if ((links[OUTPUT][e] & files) != 0) {
                    set |= 1 << e;
                }
            }
            return set;
        }

        private int waitedForBy(int edges) {
            int set = 0;
            for (int e = 0; e < count; e++) {
                if (has(edges, e)) {
                    set |= waits(e);
                }
            }
            return set;
        }

        private int reachedFrom(int targets) {
            int reached = makersOf(targets);
            for (int round = 0; round < EDGES; round++) {
                reached |= makersOf(waitedForBy(reached));
            }
            return reached;
        }

        private int nextToLookAt(int reached, int looked) {
            for (int e = 0; e < count; e++) {
                if (has(reached, e) && !has(looked, e) && (makersOf(waits(e)) & ~looked) == 0) {
                    return e;
                }
            }
            return NONE;
        }

        private boolean hasCycle(int reached) {
            int looked = 0;
            for (int n = 0; n < EDGES; n++) {
                int e = nextToLookAt(reached, looked);
                if (e != NONE) {
                    looked |= 1 << e;
                }
            }
            return looked != reached;
        }
    }

    private static final class Readings {
        private final int[] recorded;
        private final boolean[] known;

        private Readings() {
            recorded = new int[EDGES];
            known = new boolean[EDGES];
        }

        private void keep(int e, int files) {
            recorded[e] = files;
            known[e] = true;
        }

        private void forget() {
            for (int e = 0; e < EDGES; e++) {
                recorded[e] = 0;
                known[e] = false;
            }
        }
    }

    /**
     * The row of bytes, and beside it what counts for each output: a spoilt byte must not count
     * before the row is read again.
     */
    private static final class RecordLog {
        private static final int RECORD = 8;
        private static final int CHECK = 7;
        private static final int CHECK_MODULUS = 251;
        private static final int MOST_BYTES = 50 * RECORD;

        private final int[] bytes;
        private final int[] commands;
        private final int[] times;
        private int length;

        private RecordLog() {
            bytes = new int[MOST_BYTES];
            commands = new int[FILES];
            times = new int[FILES];
            Arrays.fill(commands, NONE);
        }

        private boolean hasByte(int k) {
            return isIn(k, 0, length - 1);
        }

        private boolean hasRecord(int f) {
            return commands[f] != NONE;
        }

        private boolean reaches(int f, int time) {
            return hasRecord(f) && times[f] >= time;
        }

        private void append(int f, int command, int time) {
            if (length + RECORD > MOST_BYTES) {
                writeAnew();
            }
            commands[f] = command;
            times[f] = time;
            addBytes(f);
        }

        private void writeAnew() {
            length = 0;
            for (int f = 0; f < FILES; f++) {
                if (hasRecord(f)) {
                    addBytes(f);
                }
            }
        }

        private void addBytes(int f) {
            bytes[length] = f;
            bytes[length + 1] = commands[f] >>> 8;
            bytes[length + 2] = commands[f] & 255;
            bytes[length + 3] = times[f] >>> 24;
            bytes[length + 4] = times[f] >>> 16 & 255;
            bytes[length + 5] = times[f] >>> 8 & 255;
            bytes[length + 6] = times[f] & 255;
            bytes[length + CHECK] = checkOf(length);
            length += RECORD;
        }

        private int checkOf(int at) {
            int sum = 0;
            for (int k = at; k < at + CHECK; k++) {
                sum += bytes[k];
            }
            return sum % CHECK_MODULUS;
        }

        private boolean isRight(int at) {
            return bytes[at + CHECK] == checkOf(at) && isFile(bytes[at]);
        }

        private void readAgain(int most) {
            int end = Math.min(length, most);
            Arrays.fill(commands, NONE);
            length = 0;
            for (int at = 0; at + RECORD <= end && isRight(at); at += RECORD) {
                takeIn(at);
                length = at + RECORD;
            }
        }

        private void takeIn(int at) {
            int f = bytes[at];
            commands[f] = bytes[at + 1] << 8 | bytes[at + 2];
            times[f] = bytes[at + 3] << 24 | bytes[at + 4] << 16 | bytes[at + 5] << 8
                    | bytes[at + 6];
        }
    }

    private static final class Build {
        private final int[] steps;
        private int jobs;
        private int fail;
        private int stage;

        private Build() {
            steps = new int[EDGES];
        }

        private boolean isUnderWay() {
            return stage == UNDER_WAY;
        }

        private boolean isPending(int e) {
            return steps[e] == TO_RUN || steps[e] == RUNS || steps[e] == FAILED;
        }

        private int countAt(int step) {
            int n = 0;
            for (int e = 0; e < EDGES; e++) {
                if (steps[e] == step) {
                    n++;
                }
            }
            return n;
        }

        private void renew(int jobCount, int failCount) {
            Arrays.fill(steps, NOT_TO_RUN);
            jobs = jobCount;
            fail = failCount;
        }

        private void forget() {
            Arrays.fill(steps, NOT_TO_RUN);
            stage = NO_BUILD;
        }
    }
}
