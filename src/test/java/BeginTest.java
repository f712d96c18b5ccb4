import java.util.NoSuchElementException;

/** Promise 9: what a build reaches, what it refuses, and what is out of date. */
public final class BeginTest {
    private static final int PHONY = 1;
    private static final int RESTAT = 2;
    private static final int GENERATOR = 4;
    private static final int READER = 8;

    private final Due due = new Due("BeginTest");

    public static void main(String[] args) {
        BeginTest test = new BeginTest();
        test.wrongArguments();
        test.targets();
        test.cycles();
        test.missing();
        test.aRefusedBeginChangesNothing();
        test.needsOfDirtyEdges();
        test.outputsNotThere();
        test.records();
        test.times();
        test.timesOfRestat();
        test.newestThroughPhonies();
        test.recordedReads();
        test.readsOfOthersAreNotRecorded();
        test.lookedAtAfterItsMakers();
        test.due.end();
    }

    private void wrongArguments() {
        FileBuilder x = Scene.row(1, 0);
        int[][] wrong = {{0, 1, 1}, {1 << 24, 1, 1}, {1 | 1 << 31, 1, 1}, {-1, 1, 1}, {2, 0, 1},
            {2, 5, 1}, {2, 1, 0}, {2, 1, 5}, {2, -1, 1}};
        for (int[] w : wrong) {
            due.refuses("begin " + w[0] + " " + w[1] + " " + w[2], IllegalArgumentException.class,
                    () -> x.begin(w[0], w[1], w[2]));
        }
        due.answers("state after refusals", x.state(), 0);
        due.answers("begin(2, 4, 4)", x.begin(2, 4, 4), 1);
    }

    private void targets() {
        FileBuilder x = Scene.fan(4, 0);
        due.answers("two targets and a file that is there", x.begin(5 << 12 | 1, 4, 1), 2);
        due.answers("about(0)", x.about(0), 1);
        due.answers("about(1)", x.about(1), 0);
        due.answers("about(2)", x.about(2), 1);
        FileBuilder y = Scene.row(12, 0);
        due.answers("a row is reached from its end", y.begin(1 << 12, 1, 1), 12);
        FileBuilder z = Scene.row(12, 0);
        due.answers("a row is reached from its midst", z.begin(1 << 6, 1, 1), 6);
        FileBuilder w = new FileBuilder();
        Scene.edge(w, 1, 0, 0, 0, 1);
        Scene.edge(w, 2, 0, 0, 1, 2);
        Scene.edge(w, 3, 0, 0, 1, 3);
        due.refuses("missing behind two edges", NoSuchElementException.class,
                () -> w.begin(12, 1, 1));
        w.write(0, 1);
        due.answers("reached from two edges", w.begin(12, 1, 1), 3);
    }

    private void cycles() {
        Class<UnsupportedOperationException> cycle = UnsupportedOperationException.class;
        for (int kind = 1; kind < 4; kind++) {
            FileBuilder x = Scene.row(3, 0);
            x.link(0, kind, 3);
            due.refuses("a cycle of three by kind " + kind, cycle, () -> x.begin(2, 1, 1));
            x.edge(1, 0, 0);
            x.link(3, Scene.OUTPUT, 10);
            due.answers("a cycle that is not reached", x.begin(1 << 10, 1, 1), 1);
        }
        FileBuilder phonies = new FileBuilder();
        Scene.edge(phonies, 1, PHONY, 0, 0, 1);
        Scene.edge(phonies, 1, PHONY, 0, 1, 0);
        due.refuses("a cycle of phonies", cycle, () -> phonies.begin(1, 1, 1));
        FileBuilder both = new FileBuilder();
        Scene.edge(both, 1, 0, 0, 1, 1);
        both.link(0, Scene.INPUT, 1);
        both.link(0, Scene.INPUT, 2);
        due.refuses("a cycle goes before what is missing", cycle, () -> both.begin(2, 1, 1));
    }

    private void missing() {
        Class<NoSuchElementException> missing = NoSuchElementException.class;
        FileBuilder x = new FileBuilder();
        due.refuses("a target that is not there", missing, () -> x.begin(1, 1, 1));
        x.write(0, 1);
        due.answers("a target that is there", x.begin(1, 1, 1), 0);
        due.answers("its state", x.state(), 2);
        for (int kind = 1; kind < 4; kind++) {
            for (int flags = 0; flags < 2; flags++) {
                FileBuilder y = new FileBuilder();
                y.edge(1, flags, 0);
                y.link(0, Scene.OUTPUT, 1);
                y.link(0, kind, 2);
                due.refuses("kind " + kind + " is missing", missing, () -> y.begin(2, 1, 1));
                y.write(2, 1);
                due.answers("kind " + kind + " is there", y.begin(2, 1, 1), 1 - flags);
            }
        }
        FileBuilder z = new FileBuilder();
        z.edge(1, 0, 0);
        z.link(0, Scene.OUTPUT, 1);
        z.reads(0, 2, true);
        due.answers("what is read besides need not be there", z.begin(2, 1, 1), 1);
    }

    private void aRefusedBeginChangesNothing() {
        FileBuilder x = Scene.row(2, 0);
        x.edge(5, 0, 0);
        x.link(2, Scene.OUTPUT, 8);
        x.link(2, Scene.INPUT, 9);
        x.begin(4, 1, 1);
        x.start();
        x.finish(0, false);
        String before = Scene.sight(x);
        due.refuses("missing", NoSuchElementException.class, () -> x.begin(1 << 8, 2, 2));
        due.refuses("wrong", IllegalArgumentException.class, () -> x.begin(1 << 8, 2, 5));
        x.link(2, Scene.INPUT, 8);
        due.refuses("cycle", UnsupportedOperationException.class, () -> x.begin(1 << 8, 2, 2));
        if (!before.equals(Scene.sight(x))) {
            due.fault("a refused begin changed something");
        }
    }

    private void needsOfDirtyEdges() {
        for (int kind = 1; kind < 4; kind++) {
            FileBuilder x = new FileBuilder();
            Scene.edge(x, 1, 0, 0, 0, 1);
            x.edge(2, 0, 0);
            x.link(1, kind, 1);
            x.link(1, Scene.OUTPUT, 2);
            x.edge(3, PHONY, 0);
            x.link(2, Scene.INPUT, 2);
            x.link(2, Scene.OUTPUT, 3);
            x.edge(4, 0, 0);
            x.link(3, kind, 3);
            x.link(3, Scene.OUTPUT, 4);
            x.write(0, 1);
            due.answers("all at first", Scene.buildAll(x, 16), 3);
            due.answers("none again", x.begin(16, 1, 1), 0);
            x.command(0, 7);
            due.answers("dirty by kind " + kind, x.begin(16, 1, 1), kind == Scene.ORDER_ONLY ? 1 : 3);
            due.answers("a phony is never to run", x.about(2), 0);
        }
    }

    private void outputsNotThere() {
        FileBuilder x = new FileBuilder();
        x.edge(1, GENERATOR, 0);
        x.link(0, Scene.OUTPUT, 1);
        x.link(0, Scene.OUTPUT, 2);
        due.answers("no outputs at first", Scene.buildAll(x, 2), 1);
        due.answers("both are there", x.begin(2, 1, 1), 0);
        x.remove(2);
        due.answers("one is not there", x.begin(2, 1, 1), 1);
    }

    private void records() {
        for (int flags = 0; flags <= GENERATOR; flags += GENERATOR) {
            FileBuilder x = new FileBuilder();
            x.edge(1, flags, 0);
            x.link(0, Scene.OUTPUT, 1);
            x.write(1, 5);
            int ofLog = flags == GENERATOR ? 0 : 1;
            due.answers("no record, flags " + flags, x.begin(2, 1, 1), ofLog);
            FileBuilder y = Scene.row(1, flags);
            Scene.buildAll(y, 2);
            due.answers("the record fits", y.begin(2, 1, 1), 0);
            y.command(0, 9);
            due.answers("another command, flags " + flags, y.begin(2, 1, 1), ofLog);
            FileBuilder z = Scene.row(1, flags);
            Scene.buildAll(z, 2);
            z.write(20, 1);
            z.link(0, Scene.OUTPUT, 20);
            due.answers("one output of two has no record", z.begin(2, 1, 1), ofLog);
        }
    }

    private void times() {
        for (int kind = 1; kind < 4; kind++) {
            FileBuilder x = Scene.row(1, 0);
            x.link(0, kind, 5);
            x.write(5, 1);
            Scene.buildAll(x, 2);
            x.write(5, 1);
            due.answers("newer by kind " + kind, x.begin(2, 1, 1), kind == Scene.ORDER_ONLY ? 0 : 1);
        }
        FileBuilder x = Scene.row(1, 0);
        x.link(0, Scene.OUTPUT, 5);
        Scene.buildAll(x, 2);
        x.write(0, 3);
        x.write(5, 3);
        due.answers("one output is older, the other is not", x.begin(32, 1, 1), 1);
        FileBuilder y = Scene.row(1, 0);
        Scene.buildAll(y, 2);
        y.write(0, 3);
        y.write(1, 3);
        due.answers("an output written by hand is newer", y.begin(2, 1, 1), 0);
        FileBuilder z = new FileBuilder();
        Scene.edge(z, 1, 0, 0, 1, 0);
        z.write(1, 1);
        Scene.buildAll(z, 1);
        z.write(1, 1);
        due.answers("file 0 is older", z.begin(1, 1, 1), 1);
    }

    private void timesOfRestat() {
        FileBuilder x = Scene.row(2, RESTAT);
        due.answers("all at first", Scene.buildAll(x, 4), 2);
        x.write(0, 1000);
        due.answers("a newer need", Scene.buildAll(x, 4), 1);
        due.answers("the output's time stays", x.file(1, 1), 2);
        due.answers("the record's time goes on", x.file(1, 2), x.file(0, 1));
        due.answers("the record saves the edge", x.begin(4, 1, 1), 0);
        x.write(0, 1000);
        due.answers("a need newer than the record", x.begin(4, 1, 1), 2);
        FileBuilder y = new FileBuilder();
        Scene.edge(y, 1, RESTAT | GENERATOR, 0, 0, 1);
        y.write(1, 1);
        y.write(0, 1);
        due.answers("a generator without a record is not saved", y.begin(2, 1, 1), 1);
    }

    private void newestThroughPhonies() {
        FileBuilder x = new FileBuilder();
        x.edge(0, PHONY, 0);
        x.link(0, Scene.INPUT, 0);
        x.link(0, Scene.ORDER_ONLY, 1);
        x.link(0, Scene.OUTPUT, 2);
        Scene.edge(x, 0, PHONY, 0, 2, 3);
        Scene.edge(x, 5, 0, 0, 3, 4);
        x.write(0, 1);
        x.write(1, 1);
        due.answers("all at first", Scene.buildAll(x, 16), 1);
        due.answers("NEWEST in the log", x.file(4, 2), 1);
        x.write(1, 2);
        due.answers("an order-only one of a phony is newer", x.begin(16, 1, 1), 0);
        x.write(0, 2);
        due.answers("a need behind two phonies is newer", x.begin(16, 1, 1), 1);
        FileBuilder y = new FileBuilder();
        Scene.edge(y, 5, 0, 0, 0, 1);
        y.edge(0, PHONY, 0);
        y.link(1, Scene.OUTPUT, 0);
        Scene.buildAll(y, 2);
        due.answers("NEWEST of nothing", y.file(1, 2), 0);
        due.answers("an empty phony is never newer", y.begin(2, 1, 1), 0);
    }

    private void recordedReads() {
        FileBuilder x = Scene.row(1, READER | GENERATOR);
        x.write(1, 1);
        due.answers("a reader without a record", Scene.buildAll(x, 2), 1);
        due.answers("a record of nothing read is a record", x.begin(2, 1, 1), 0);
        x.reads(0, 5, true);
        x.write(5, 1);
        due.answers("what it reads is not recorded yet", x.begin(2, 1, 1), 0);
        x.remove(1);
        Scene.buildAll(x, 2);
        due.answers("NEWEST has the reads", x.file(1, 2), x.file(5, 1));
        x.write(5, 1);
        due.answers("a recorded read is newer", Scene.buildAll(x, 2), 1);
        x.remove(5);
        due.answers("a recorded read is not there", x.begin(2, 1, 1), 1);
        x.start();
        x.finish(0, false);
        x.reads(0, 5, false);
        due.answers("it is recorded until the edge ends well", x.begin(2, 1, 1), 1);
        x.start();
        x.finish(0, true);
        due.answers("then it is recorded no more", x.begin(2, 1, 1), 0);
        due.answers("NEWEST has it no more", x.file(1, 2), 1);
    }

    private void readsOfOthersAreNotRecorded() {
        FileBuilder x = Scene.row(1, 0);
        x.reads(0, 5, true);
        x.write(5, 1);
        Scene.buildAll(x, 2);
        due.answers("reads are mixed in", x.file(1, 0), Scene.mix(Scene.mix(Scene.mix(
                Scene.mix(Scene.mix(101, 0), 1000), 5), 1), 1));
        due.answers("NEWEST without the reads", x.file(1, 2), 1);
        x.write(5, 2);
        due.answers("a newer read of no reader", x.begin(2, 1, 1), 0);
        x.remove(5);
        due.answers("a read of no reader is not there", x.begin(2, 1, 1), 0);
    }

    private void lookedAtAfterItsMakers() {
        FileBuilder x = new FileBuilder();
        for (int i = 0; i < 12; i++) {
            Scene.edge(x, i, 0, 0, 12 - i, 11 - i);
        }
        x.write(12, 1);
        Scene.buildAll(x, 1);
        x.command(11, 99);
        due.answers("only the last of a row that is numbered from its end", x.begin(1, 1, 1), 1);
        FileBuilder y = new FileBuilder();
        for (int i = 0; i < 12; i++) {
            Scene.edge(y, i, 0, 0, i + 1, i);
        }
        y.write(12, 1);
        Scene.buildAll(y, 1);
        y.command(11, 99);
        due.answers("all behind an edge of a higher number", y.begin(1, 1, 1), 12);
    }
}
