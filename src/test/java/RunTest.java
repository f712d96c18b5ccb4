import java.util.NoSuchElementException;

/** Promises 10 to 14: start, finish, state, about and file. */
public final class RunTest {
    private static final int NONE = FileBuilder.NONE;
    private static final int PHONY = 1;
    private static final int RESTAT = 2;
    private static final int GENERATOR = 4;
    private static final int READER = 8;

    private final Due due = new Due("RunTest");

    public static void main(String[] args) {
        RunTest test = new RunTest();
        test.jobs();
        test.pools();
        test.failures();
        test.blocked();
        test.blockedThroughPhonies();
        test.finishOfWhatDoesNotRun();
        test.contents();
        test.outputsByNumbers();
        test.restatStays();
        test.letGo();
        test.letGoBehindALowerNumber();
        test.notLetGoForItsOwnReasons();
        test.failedWritesNothing();
        test.states();
        test.anOverBuildStaysOver();
        test.about();
        test.file();
        test.due.end();
    }

    private void jobs() {
        for (int jobs = 1; jobs <= 4; jobs++) {
            FileBuilder x = Scene.fan(6, 0);
            x.begin(63 << 12, jobs, 1);
            for (int e = 0; e < jobs; e++) {
                due.answers("start " + e + " of " + jobs + " jobs", x.start(), e);
            }
            due.answers("one more than " + jobs + " jobs", x.start(), NONE);
            x.finish(0, true);
            due.answers("the next after one ended", x.start(), jobs);
        }
    }

    private void pools() {
        FileBuilder x = new FileBuilder();
        int[] pools = {1, 1, 2, 0, 2, 1};
        for (int i = 0; i < pools.length; i++) {
            Scene.edge(x, i, 0, pools[i], i, 12 + i);
            x.write(i, 1);
        }
        x.begin(63 << 12, 4, 1);
        due.answers("the first of pool 1", x.start(), 0);
        due.answers("the first of pool 2 goes before the second of pool 1", x.start(), 2);
        due.answers("one of no pool", x.start(), 3);
        due.answers("the pools are full", x.start(), NONE);
        x.finish(2, true);
        due.answers("the second of pool 2", x.start(), 4);
        x.finish(0, true);
        due.answers("the second of pool 1", x.start(), 1);
        x.finish(1, false);
        due.answers("none after a failure", x.start(), NONE);
    }

    private void failures() {
        for (int fail = 1; fail <= 4; fail++) {
            FileBuilder x = Scene.fan(6, 0);
            x.begin(63 << 12, 1, fail);
            for (int e = 0; e < fail; e++) {
                due.answers("start with " + e + " failed of " + fail, x.start(), e);
                due.answers("finish of one that fails", x.finish(e, false), 0);
            }
            due.answers("start with all failed that may", x.start(), NONE);
            due.answers("state", x.state(), 3);
            due.answers("what did not run is to run", x.about(5), 1);
        }
        FileBuilder x = Scene.fan(3, 0);
        x.begin(7 << 12, 2, 1);
        x.start();
        x.start();
        x.finish(0, false);
        due.answers("one still runs", x.state(), 1);
        due.answers("but none begins", x.start(), NONE);
        x.finish(1, true);
        due.answers("now it is over", x.state(), 3);
        due.answers("what ran on ended well", x.about(1), 3);
        due.answers("and wrote its output", x.file(13, 1) > 0, true);
    }

    private void blocked() {
        for (int kind = 1; kind < 4; kind++) {
            FileBuilder x = twoByKind(kind);
            due.answers("the maker first, kind " + kind, x.start(), 1);
            due.answers("blocked while it runs", x.start(), NONE);
            x.finish(1, true);
            due.answers("then the other", x.start(), 0);
            FileBuilder y = twoByKind(kind);
            y.start();
            y.finish(1, false);
            due.answers("blocked by one that failed", y.start(), NONE);
            due.answers("which ends the build", y.state(), 3);
            due.answers("about the blocked one", y.about(0), 1);
        }
    }

    /** A build in which edge 0 waits by the kind for what edge 1 makes. */
    private static FileBuilder twoByKind(int kind) {
        FileBuilder x = new FileBuilder();
        x.edge(1, 0, 0);
        x.link(0, kind, 1);
        x.link(0, Scene.OUTPUT, 2);
        Scene.edge(x, 2, 0, 0, 0, 1);
        x.write(0, 1);
        x.begin(4, 4, 4);
        return x;
    }

    private void blockedThroughPhonies() {
        for (int inner = 1; inner < 4; inner++) {
            for (int outer = 1; outer < 4; outer++) {
                FileBuilder x = new FileBuilder();
                x.edge(1, 0, 0);
                x.link(0, outer, 3);
                x.link(0, Scene.OUTPUT, 4);
                Scene.edge(x, 1, PHONY, 0, 2, 3);
                x.edge(1, PHONY, 0);
                x.link(2, inner, 1);
                x.link(2, Scene.OUTPUT, 2);
                Scene.edge(x, 1, 0, 0, 0, 1);
                x.write(0, 1);
                due.answers("begin", x.begin(16, 4, 4), 2);
                due.answers("the maker behind phonies first", x.start(), 3);
                due.answers("blocked by a phony that is", x.start(), NONE);
                x.finish(3, true);
                due.answers("then the edge before the phonies", x.start(), 0);
            }
        }
    }

    private void finishOfWhatDoesNotRun() {
        Class<NoSuchElementException> none = NoSuchElementException.class;
        FileBuilder x = Scene.row(2, 0);
        x.begin(4, 2, 1);
        due.refuses("finish of one that is to run", none, () -> x.finish(0, true));
        x.start();
        due.refuses("finish(1)", none, () -> x.finish(1, true));
        due.refuses("finish(2)", none, () -> x.finish(2, false));
        due.refuses("finish(-1)", none, () -> x.finish(-1, true));
        due.refuses("finish(12)", none, () -> x.finish(12, true));
        due.refuses("finish(MAX)", none, () -> x.finish(Integer.MAX_VALUE, true));
        x.finish(0, true);
        due.refuses("finish of one that ended", none, () -> x.finish(0, true));
        x.start();
        x.finish(1, false);
        due.refuses("finish of one that failed", none, () -> x.finish(1, true));
    }

    private void contents() {
        FileBuilder x = new FileBuilder();
        x.edge(300, 0, 0);
        x.edge(300, GENERATOR, 0);
        for (int e = 0; e < 2; e++) {
            x.link(e, Scene.INPUT, 7);
            x.link(e, Scene.IMPLICIT, 2);
            x.link(e, Scene.ORDER_ONLY, 3);
            x.link(e, Scene.OUTPUT, 20 + e);
            x.reads(e, 5, true);
            x.reads(e, 6, true);
        }
        x.write(7, 70);
        x.write(2, -20);
        x.write(3, 30);
        x.write(5, 50);
        Scene.buildAll(x, 3 << 20);
        int[] start = {302, 17};
        int[][] read = {{2, -20}, {5, 50}, {6, 0}, {7, 70}};
        for (int e = 0; e < 2; e++) {
            int h = start[e];
            for (int[] one : read) {
                h = Scene.mix(Scene.mix(h, one[0]), one[1]);
            }
            due.answers("content by edge " + e, x.file(20 + e, 0), Scene.mix(h, 20 + e));
            due.answers("the command in the log", x.file(20 + e, 3), 302);
        }
    }

    private void outputsByNumbers() {
        FileBuilder x = new FileBuilder();
        x.edge(5, 0, 0);
        int[] outputs = {9, 2, 17};
        for (int f : outputs) {
            x.link(0, Scene.OUTPUT, f);
        }
        Scene.buildAll(x, 4);
        int[] sorted = {2, 9, 17};
        for (int i = 0; i < 3; i++) {
            due.answers("time of output " + sorted[i], x.file(sorted[i], 1), i + 1);
            due.answers("record " + i, x.log(8 * i), sorted[i]);
        }
    }

    private void restatStays() {
        FileBuilder x = new FileBuilder();
        x.edge(5, RESTAT, 0);
        x.link(0, Scene.INPUT, 0);
        x.link(0, Scene.OUTPUT, 1);
        x.link(0, Scene.OUTPUT, 2);
        x.write(0, 1);
        Scene.buildAll(x, 2);
        due.answers("time of 1", x.file(1, 1), 2);
        due.answers("time of 2", x.file(2, 1), 3);
        x.write(1, 99);
        x.write(0, 1);
        Scene.buildAll(x, 2);
        due.answers("another content is written", x.file(1, 1), 6);
        due.answers("the same content is not", x.file(2, 1), 3);
        x.remove(2);
        Scene.buildAll(x, 2);
        due.answers("what is not there is written", x.file(2, 1), 7);
        FileBuilder y = Scene.row(1, 0);
        Scene.buildAll(y, 2);
        y.write(0, 1000);
        Scene.buildAll(y, 2);
        due.answers("no restat: the same content is written", y.file(1, 1), 4);
        zeroContentIsNotThere();
    }

    /** A file that is not there has content 0 too: it must be written even if 0 is what it gets. */
    private void zeroContentIsNotThere() {
        FileBuilder x = new FileBuilder();
        x.edge(3, RESTAT, 0);
        x.link(0, Scene.OUTPUT, 3);
        Scene.buildAll(x, 8);
        due.answers("MIX of the same is 0", x.file(3, 0), 0);
        due.answers("and yet it is written", x.file(3, 1), 1);
    }

    private void letGo() {
        FileBuilder x = Scene.row(6, RESTAT);
        Scene.buildAll(x, 1 << 6);
        x.write(0, 1000);
        due.answers("all are to run", x.begin(1 << 6, 1, 1), 6);
        x.start();
        due.answers("five are let go", x.finish(0, true), 5);
        for (int e = 1; e < 6; e++) {
            due.answers("about " + e, x.about(e), 5);
        }
        due.answers("over well", x.state(), 2);
        due.answers("what was let go has its old record", x.file(2, 2), 2);
        FileBuilder y = Scene.row(3, 0);
        Scene.buildAll(y, 8);
        y.write(0, 1000);
        y.begin(8, 1, 1);
        y.start();
        due.answers("none without restat", y.finish(0, true), 0);
    }

    private void letGoBehindALowerNumber() {
        FileBuilder x = new FileBuilder();
        for (int i = 0; i < 5; i++) {
            Scene.edge(x, i, i == 4 ? RESTAT : i == 2 ? PHONY : 0, 0, i + 1, i);
        }
        x.write(5, 1);
        Scene.buildAll(x, 1);
        x.write(5, 1);
        due.answers("all but the phony are to run", x.begin(1, 1, 1), 4);
        due.answers("the last number begins", x.start(), 4);
        due.answers("all before it are let go", x.finish(4, true), 3);
        due.answers("over well", x.state(), 2);
    }

    private void notLetGoForItsOwnReasons() {
        FileBuilder x = Scene.row(4, RESTAT);
        Scene.buildAll(x, 16);
        x.write(0, 1000);
        x.command(2, 7);
        due.answers("begin", x.begin(16, 1, 1), 4);
        x.start();
        due.answers("only one is let go", x.finish(0, true), 1);
        due.answers("about(1)", x.about(1), 5);
        due.answers("about(2)", x.about(2), 1);
        due.answers("about(3)", x.about(3), 1);
        due.answers("start", x.start(), 2);
        due.answers("another content lets none go", x.finish(2, true), 0);
        due.answers("start", x.start(), 3);
        due.answers("two needs of two dirty edges", twoNeeds(), 0);
    }

    private int twoNeeds() {
        FileBuilder x = new FileBuilder();
        Scene.edge(x, 1, RESTAT, 0, 0, 2);
        Scene.edge(x, 2, RESTAT, 0, 1, 3);
        Scene.edge(x, 3, 0, 0, 2, 4);
        x.link(2, Scene.IMPLICIT, 3);
        x.write(0, 1);
        x.write(1, 1);
        Scene.buildAll(x, 16);
        x.write(0, 1);
        x.write(1, 1);
        x.begin(16, 2, 1);
        x.start();
        x.start();
        int gone = x.finish(1, true);
        due.answers("the other still runs", x.about(2), 1);
        due.answers("it lets the third go", x.finish(0, true), 1);
        return gone;
    }

    private void failedWritesNothing() {
        FileBuilder x = Scene.row(2, READER);
        x.begin(4, 1, 1);
        x.start();
        String before = Scene.sight(x);
        x.finish(0, false);
        String after = Scene.sight(x);
        due.answers("files and log after a failure",
                before.substring(before.indexOf(" file")).equals(after.substring(after.indexOf(" file"))),
                true);
        due.answers("about", x.about(0), 4);
        due.answers("it is not recorded either", x.begin(4, 1, 1), 2);
    }

    private void states() {
        FileBuilder x = Scene.row(2, 0);
        due.answers("no build yet", x.state(), 0);
        x.begin(4, 1, 2);
        due.answers("under way before one runs", x.state(), 1);
        x.start();
        due.answers("under way while one runs", x.state(), 1);
        x.finish(0, true);
        due.answers("under way between two", x.state(), 1);
        x.start();
        x.finish(1, false);
        due.answers("over otherwise", x.state(), 3);
        Scene.buildAll(x, 4);
        due.answers("over well", x.state(), 2);
        x.begin(4, 1, 1);
        due.answers("nothing to do", x.state(), 2);
        x.cut(0);
        due.answers("no build after a cut", x.state(), 0);
    }

    private void anOverBuildStaysOver() {
        FileBuilder x = Scene.fan(2, 1);
        x.begin(3 << 12, 1, 1);
        x.start();
        x.finish(0, false);
        due.answers("over", x.state(), 3);
        x.pool(1, 4);
        x.write(13, 1);
        x.command(1, 5);
        due.answers("still over", x.state(), 3);
        due.answers("none begins", x.start(), NONE);
        due.answers("about is kept", x.about(0), 4);
        x.edge(1, 0, 0);
        due.answers("a new edge is not to run", x.about(2), 0);
        due.answers("a new build forgets the failure", x.begin(3 << 12, 1, 1), 2);
        due.answers("about(0) anew", x.about(0), 1);
    }

    private void about() {
        FileBuilder x = Scene.row(2, 0);
        due.refuses("about(2)", IllegalArgumentException.class, () -> x.about(2));
        due.refuses("about(-1)", IllegalArgumentException.class, () -> x.about(-1));
        due.refuses("about(MIN)", IllegalArgumentException.class, () -> x.about(Integer.MIN_VALUE));
        due.answers("without a build", x.about(0), 0);
        x.begin(2, 1, 1);
        due.answers("to run", x.about(0), 1);
        due.answers("not reached", x.about(1), 0);
        x.start();
        due.answers("runs", x.about(0), 2);
        x.finish(0, true);
        due.answers("ended well", x.about(0), 3);
        x.begin(4, 1, 1);
        due.answers("not out of date", x.about(0), 0);
    }

    private void file() {
        FileBuilder x = Scene.row(1, 0);
        int[][] wrong = {{-1, 0}, {24, 0}, {0, -1}, {0, 4}, {Integer.MAX_VALUE, 1}, {24, 4}};
        for (int[] w : wrong) {
            due.refuses("file " + w[0] + " " + w[1], IllegalArgumentException.class,
                    () -> x.file(w[0], w[1]));
        }
        Scene.buildAll(x, 2);
        due.answers("content", x.file(1, 0), Scene.mix(Scene.mix(Scene.mix(100, 0), 1000), 1));
        due.answers("time", x.file(1, 1), 2);
        due.answers("time of its record", x.file(1, 2), 1);
        due.answers("command of its record", x.file(1, 3), 100);
        x.remove(1);
        due.answers("the record outlives the file", x.file(1, 3), 100);
        due.answers("no record of a file that no edge makes", x.file(0, 2), NONE);
    }
}
