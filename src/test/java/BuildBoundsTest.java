import java.util.NoSuchElementException;

/** The boundary cases of a build: what it reaches, refuses, begins, lets go and how it is over. */
public final class BuildBoundsTest {
    private static final int NONE = FileBuilder.NONE;
    private static final int PHONY = 1;
    private static final int RESTAT = 2;
    private static final int GENERATOR = 4;

    private final Due due = new Due("BuildBoundsTest");

    public static void main(String[] args) {
        BuildBoundsTest test = new BuildBoundsTest();
        test.nothingReached();
        test.reachedByEveryKind();
        test.twelveReached();
        test.cycleOfOne();
        test.cycleOfTwelve();
        test.cycleThroughEveryKind();
        test.cycleOfPhonies();
        test.cycleNotReached();
        test.twoWaysAreNoCycle();
        test.missingTarget();
        test.missingTargetThatIsNeeded();
        test.madeIsNotMissing();
        test.missingOfAPhony();
        test.missingNotReached();
        test.readsAreNotMissing();
        test.readyBehindWhatIsNotToRun();
        test.blockedByOrderOnlyOfAPhony();
        test.phonyChain();
        test.phoniesTakeNoRoom();
        test.lowestNumberBegins();
        test.failedLeaveTheirJob();
        test.failedLeaveTheirPool();
        test.runOnAfterTheLastFailure();
        test.eachNeedOnce();
        test.restatWritesWhatIsNotThere();
        test.recordOfWhatStays();
        test.letGoTwelve();
        test.letGoFreesWhatWaits();
        test.letGoAfterTheLastFailure();
        test.notLetGoByAnotherContent();
        test.failedWritesNothing();
        test.overAtOnce();
        test.overWithLetGoAlone();
        test.stateAfterRefusedBegin();
        test.anotherBuild();
        test.due.end();
    }

    private void nothingReached() {
        due.sentence("REACHED are the edges that make them: a target that no edge makes");
        FileBuilder x = new FileBuilder();
        x.write(0, 1);
        due.answers("without an edge", x.begin(1, 1, 1), 0);
        due.answers("over well", x.state(), 2);
        due.answers("start", x.start(), NONE);
        FileBuilder y = Scene.row(1, 0);
        due.answers("with an edge that needs the target", y.begin(1, 1, 1), 0);
        due.answers("over well", y.state(), 2);
        due.answers("about the edge", y.about(0), 0);
    }

    private void reachedByEveryKind() {
        due.sentence("REACHED are those that make what a reached edge waits for");
        for (int kind = 1; kind < 4; kind++) {
            for (int flags = 0; flags <= PHONY; flags++) {
                FileBuilder x = Scene.row(1, 0);
                x.edge(5, flags, 0);
                x.link(1, kind, 1);
                x.link(1, Scene.OUTPUT, 2);
                x.edge(6, 0, 0);
                x.link(2, Scene.OUTPUT, 3);
                due.answers("by kind " + kind, x.begin(4, 1, 1), 2 - flags);
                due.answers("the maker", x.about(0), 1);
                due.answers("one not reached", x.about(2), 0);
            }
        }
    }

    private void twelveReached() {
        due.sentence("REACHED: twelve edges in a row, numbered from either end");
        FileBuilder up = Scene.row(12, 0);
        FileBuilder down = rowFromItsEnd(0);
        due.answers("numbered from its beginning", up.begin(1 << 12, 1, 1), 12);
        due.answers("numbered from its end", down.begin(1, 1, 1), 12);
        for (int n = 0; n < 12; n++) {
            due.answers("start", up.start(), n);
            due.answers("start", down.start(), 11 - n);
            up.finish(n, true);
            down.finish(11 - n, true);
        }
        due.answers("over", up.state(), 2);
        due.answers("over", down.state(), 2);
    }

    /** Edge i makes file i out of file i + 1; file 12 is there. */
    private static FileBuilder rowFromItsEnd(int flags) {
        FileBuilder x = new FileBuilder();
        for (int i = 0; i < 12; i++) {
            Scene.edge(x, 100 + i, flags, 0, i + 1, i);
        }
        x.write(12, 1);
        return x;
    }

    private void refusesACycle(String call, FileBuilder x, int targets) {
        due.refuses(call, UnsupportedOperationException.class, () -> x.begin(targets, 1, 1));
        due.answers("state after it", x.state(), 0);
    }

    private void cycleOfOne() {
        due.sentence("Reached edges must have no CYCLE: an edge that waits for what it makes");
        for (int kind = 1; kind < 4; kind++) {
            for (int flags = 0; flags <= PHONY; flags++) {
                FileBuilder x = new FileBuilder();
                x.edge(1, flags, 0);
                x.link(0, Scene.OUTPUT, 0);
                x.link(0, kind, 0);
                refusesACycle("by kind " + kind, x, 1);
            }
        }
    }

    private void cycleOfTwelve() {
        due.sentence("Reached edges must have no CYCLE: one of all twelve");
        for (int kind = 1; kind < 4; kind++) {
            FileBuilder x = Scene.row(12, 0);
            x.link(0, kind, 12);
            for (int f = 1; f <= 12; f++) {
                refusesACycle("from file " + f + " by kind " + kind, x, 1 << f);
            }
            FileBuilder y = Scene.row(11, 0);
            y.link(0, kind, 12);
            y.write(12, 1);
            due.answers("eleven, and a file that is there", y.begin(1 << 11, 1, 1), 11);
        }
    }

    private void cycleThroughEveryKind() {
        due.sentence("Reached edges must have no CYCLE: of two, by any two kinds");
        for (int one = 1; one < 4; one++) {
            for (int other = 1; other < 4; other++) {
                FileBuilder x = new FileBuilder();
                x.edge(1, 0, 0);
                x.edge(2, 0, 0);
                x.link(0, Scene.OUTPUT, 0);
                x.link(1, Scene.OUTPUT, 1);
                x.link(0, one, 1);
                x.link(1, other, 0);
                x.write(0, 1);
                x.write(1, 1);
                refusesACycle("by kinds " + one + " and " + other, x, 1);
            }
        }
    }

    private void cycleOfPhonies() {
        due.sentence("Reached edges must have no CYCLE: phonies are edges");
        FileBuilder x = new FileBuilder();
        for (int i = 0; i < 12; i++) {
            Scene.edge(x, 0, PHONY, 0, (i + 1) % 12, i);
        }
        refusesACycle("twelve phonies", x, 1 << 5);
        FileBuilder y = Scene.row(1, 0);
        Scene.edge(y, 0, PHONY, 0, 1, 2);
        y.link(0, Scene.ORDER_ONLY, 2);
        refusesACycle("an edge and a phony", y, 2);
        refusesACycle("the phony and the edge", y, 4);
    }

    private void cycleNotReached() {
        due.sentence("Reached edges must have no CYCLE: those not reached may");
        FileBuilder x = Scene.row(3, 0);
        Scene.edge(x, 9, 0, 0, 11, 10);
        Scene.edge(x, 9, 0, 0, 10, 11);
        x.link(3, Scene.INPUT, 3);
        due.answers("what the cycle needs", x.begin(8, 1, 1), 3);
        FileBuilder y = Scene.row(3, 0);
        Scene.edge(y, 9, 0, 0, 11, 10);
        Scene.edge(y, 9, 0, 0, 10, 11);
        y.link(2, Scene.ORDER_ONLY, 11);
        refusesACycle("what needs the cycle", y, 8);
        due.answers("what does not", y.begin(4, 1, 1), 2);
    }

    private void twoWaysAreNoCycle() {
        due.sentence("Reached edges must have no CYCLE: two ways to one edge are none");
        FileBuilder x = Scene.row(3, 0);
        x.link(2, Scene.IMPLICIT, 1);
        x.link(2, Scene.ORDER_ONLY, 0);
        due.answers("two ways", x.begin(8, 1, 1), 3);
    }

    private void refusesMissing(String call, FileBuilder x, int targets) {
        due.refuses(call, NoSuchElementException.class, () -> x.begin(targets, 1, 1));
        due.answers("state after it", x.state(), 0);
    }

    private void missingTarget() {
        due.sentence("a target which no edge makes must be there (else it is MISSING)");
        for (int f = 0; f < 24; f++) {
            FileBuilder x = new FileBuilder();
            for (int other = 0; other < 24; other++) {
                if (other != f) {
                    x.write(other, 1);
                }
            }
            refusesMissing("target " + f, x, 1 << f);
            refusesMissing("target " + f + " of all", x, (1 << 24) - 1);
            due.answers("all others", x.begin((1 << 24) - 1 & ~(1 << f), 1, 1), 0);
        }
    }

    private void missingTargetThatIsNeeded() {
        due.sentence("a target, or a file that a reached edge waits for: also one that is both");
        for (int kind = 1; kind < 4; kind++) {
            FileBuilder x = new FileBuilder();
            x.edge(1, 0, 0);
            x.link(0, Scene.OUTPUT, 1);
            x.link(0, kind, 0);
            refusesMissing("target and kind " + kind, x, 3);
        }
    }

    private void madeIsNotMissing() {
        due.sentence("which no edge makes must be there: what an edge makes need not");
        FileBuilder x = Scene.row(2, 0);
        due.answers("outputs not there", x.begin(6, 1, 1), 2);
        FileBuilder y = new FileBuilder();
        y.edge(1, PHONY, 0);
        y.link(0, Scene.OUTPUT, 0);
        due.answers("a phony's output", y.begin(1, 1, 1), 0);
        due.answers("over well", y.state(), 2);
    }

    private void missingOfAPhony() {
        due.sentence("a file that a reached edge waits for must be there: also a phony");
        for (int kind = 1; kind < 4; kind++) {
            FileBuilder x = new FileBuilder();
            x.edge(1, PHONY, 0);
            x.link(0, Scene.OUTPUT, 0);
            x.link(0, kind, 23);
            Scene.edge(x, 1, 0, 0, 0, 1);
            refusesMissing("kind " + kind + " of a phony", x, 2);
            x.write(23, 0);
            due.answers("when it is there", x.begin(2, 1, 1), 1);
        }
    }

    private void missingNotReached() {
        due.sentence("a file that a reached edge waits for: one not reached may lack it");
        FileBuilder x = Scene.row(1, 0);
        Scene.edge(x, 1, 0, 0, 20, 2);
        x.link(1, Scene.INPUT, 1);
        due.answers("the edge before it", x.begin(2, 1, 1), 1);
    }

    private void readsAreNotMissing() {
        due.sentence("READS are files that its command reads besides: they need not be there");
        FileBuilder x = Scene.row(1, 0);
        x.reads(0, 23, true);
        due.answers("a read not there", x.begin(2, 1, 1), 1);
    }

    private void readyBehindWhatIsNotToRun() {
        due.sentence("BLOCKED: made by an edge that is to run, runs or failed; not by any other");
        FileBuilder x = Scene.row(2, GENERATOR);
        x.write(1, 1);
        x.write(9, 1);
        x.link(0, Scene.ORDER_ONLY, 10);
        Scene.edge(x, 7, 0, 0, 9, 10);
        due.answers("0 is up to date, 1 and 2 are to run", x.begin(4, 2, 1), 2);
        due.answers("1 waits for no edge that is to run", x.start(), 1);
        due.answers("2 is free too", x.start(), 2);
    }

    private void blockedByOrderOnlyOfAPhony() {
        due.sentence("BLOCKED: made by a phony that is blocked, by whatever it waits for");
        for (int fails = 0; fails < 2; fails++) {
            FileBuilder x = new FileBuilder();
            Scene.edge(x, 1, 0, 0, 3, 4);
            x.edge(2, PHONY, 0);
            x.link(1, Scene.OUTPUT, 3);
            x.link(1, Scene.ORDER_ONLY, 2);
            x.edge(3, 0, 0);
            x.link(2, Scene.OUTPUT, 2);
            due.answers("begin", x.begin(16, 4, 4), 2);
            due.answers("the maker", x.start(), 2);
            due.answers("the other is blocked while it runs", x.start(), NONE);
            x.finish(2, fails == 0);
            due.answers("and when it failed", x.start(), fails == 0 ? 0 : NONE);
            due.answers("state", x.state(), fails == 0 ? 1 : 3);
        }
    }

    private void phonyChain() {
        due.sentence("a phony that is blocked, dirty, or has a NEWEST: through ten phonies");
        for (int way = 0; way < 2; way++) {
            FileBuilder x = new FileBuilder();
            Scene.edge(x, 1, 0, 0, 1, 0);
            for (int i = 1; i < 11; i++) {
                int at = way == 0 ? i : 11 - i;
                Scene.edge(x, 0, PHONY, 0, at + 1, at);
            }
            Scene.edge(x, 2, 0, 0, 12, 11);
            x.write(12, 1);
            due.answers("both are to run", x.begin(1, 4, 1), 2);
            due.answers("the last begins", x.start(), 11);
            due.answers("the first is blocked", x.start(), NONE);
            x.finish(11, true);
            due.answers("then it begins", x.start(), 0);
            x.finish(0, true);
            due.answers("NEWEST through the phonies", x.file(0, 2), x.file(11, 1));
            x.command(11, 9);
            due.answers("dirty through the phonies", Scene.toRun(x, 1), 2);
            x.command(11, 2);
            x.write(11, 1);
            due.answers("newer through the phonies", Scene.toRun(x, 1), 1);
        }
    }

    private void phoniesTakeNoRoom() {
        due.sentence("OUT OF DATE is an edge, no phony: it takes no job and no room in a pool");
        FileBuilder x = new FileBuilder();
        x.edge(1, PHONY, 1);
        x.link(0, Scene.OUTPUT, 0);
        Scene.edge(x, 1, 0, 1, 0, 1);
        due.answers("to run", x.begin(2, 1, 1), 1);
        due.answers("start", x.start(), 1);
        due.answers("about the phony", x.about(0), 0);
    }

    private void lowestNumberBegins() {
        due.sentence("The lowest number begins");
        FileBuilder x = Scene.fan(12, 0);
        x.begin(0xFFF << 12, 4, 1);
        for (int e = 0; e < 4; e++) {
            due.answers("start", x.start(), e);
        }
        x.finish(3, true);
        due.answers("the lowest that has not begun", x.start(), 4);
        FileBuilder y = Scene.fan(3, 1);
        y.edge(5, 0, 0);
        y.link(3, Scene.OUTPUT, 15);
        y.begin(15 << 12, 4, 1);
        due.answers("the first of the pool", y.start(), 0);
        due.answers("the lowest that may, behind the pool", y.start(), 3);
        y.finish(0, true);
        due.answers("then the pool's next", y.start(), 1);
    }

    private void failedLeaveTheirJob() {
        due.sentence("fewer edges run than there are JOBS: one that failed runs no more");
        FileBuilder x = Scene.fan(3, 0);
        x.begin(7 << 12, 1, 4);
        x.finish(x.start(), false);
        due.answers("the next", x.start(), 1);
        due.answers("no more than one", x.start(), NONE);
    }

    private void failedLeaveTheirPool() {
        due.sentence("fewer of its pool than the pool's DEPTH: one that failed runs no more");
        for (int well = 0; well < 2; well++) {
            FileBuilder x = Scene.fan(3, 2);
            x.begin(7 << 12, 4, 4);
            due.answers("the first", x.start(), 0);
            due.answers("no second", x.start(), NONE);
            x.finish(0, well == 1);
            due.answers("the next", x.start(), 1);
        }
    }

    private void runOnAfterTheLastFailure() {
        due.sentence("fewer have failed than the build lets FAIL; what runs goes on");
        FileBuilder x = Scene.fan(6, 0);
        x.begin(63 << 12, 4, 2);
        for (int e = 0; e < 4; e++) {
            x.start();
        }
        x.finish(0, false);
        due.answers("one failed of two", x.start(), 4);
        x.finish(1, false);
        due.answers("two failed of two", x.start(), NONE);
        due.answers("three run", x.state(), 1);
        x.finish(2, false);
        due.answers("a third may fail that ran already", x.about(2), 4);
        x.finish(3, true);
        due.answers("one runs", x.state(), 1);
        x.finish(4, true);
        due.answers("none runs", x.state(), 3);
        due.answers("what never began", x.about(5), 1);
    }

    private void eachNeedOnce() {
        due.sentence("for each file f of its needs and reads (each once), by numbers");
        FileBuilder x = new FileBuilder();
        x.edge(9, 0, 0);
        x.link(0, Scene.IMPLICIT, 7);
        x.link(0, Scene.INPUT, 8);
        x.link(0, Scene.OUTPUT, 0);
        x.reads(0, 7, true);
        x.reads(0, 3, true);
        x.write(3, 30);
        x.write(7, 70);
        x.write(8, 80);
        Scene.buildAll(x, 1);
        int h = Scene.mix(Scene.mix(11, 3), 30);
        h = Scene.mix(Scene.mix(h, 7), 70);
        h = Scene.mix(Scene.mix(h, 8), 80);
        due.answers("content", x.file(0, 0), Scene.mix(h, 0));
        due.sentence("its needs and reads: an order-only one that is read counts as read");
        x.link(0, Scene.ORDER_ONLY, 7);
        x.command(0, 12);
        Scene.buildAll(x, 1);
        h = Scene.mix(Scene.mix(12, 3), 30);
        h = Scene.mix(Scene.mix(h, 7), 70);
        h = Scene.mix(Scene.mix(h, 8), 80);
        due.answers("content", x.file(0, 0), Scene.mix(h, 0));
    }

    private void restatWritesWhatIsNotThere() {
        due.sentence("(An output of a RESTAT edge that is there and has this content is not written)");
        FileBuilder x = new FileBuilder();
        x.edge(3, RESTAT, 0);
        x.link(0, Scene.OUTPUT, 3);
        Scene.buildAll(x, 8);
        due.answers("content 0 of a file not there", x.file(3, 0), 0);
        due.answers("it is written", x.file(3, 1), 1);
        x.cut(0);
        due.answers("it runs again", Scene.buildAll(x, 8), 1);
        due.answers("there, with this content", x.file(3, 1), 1);
        x.write(3, 1);
        x.cut(0);
        Scene.buildAll(x, 8);
        due.answers("there, with another content", x.file(3, 1), 3);
        FileBuilder y = new FileBuilder();
        y.edge(3, GENERATOR, 0);
        y.link(0, Scene.OUTPUT, 3);
        y.link(0, Scene.INPUT, 4);
        y.write(4, 4);
        Scene.buildAll(y, 8);
        y.write(4, 4);
        Scene.buildAll(y, 8);
        due.answers("no RESTAT: written with the same content", y.file(3, 1), 4);
    }

    private void recordOfWhatStays() {
        due.sentence("then there is a log record for each output, by numbers, with NEWEST");
        FileBuilder x = Scene.row(1, RESTAT);
        x.link(0, Scene.OUTPUT, 2);
        Scene.buildAll(x, 2);
        x.write(0, 1000);
        Scene.buildAll(x, 2);
        int[] outputs = {1, 2, 1, 2};
        int[] times = {1, 1, 4, 4};
        for (int r = 0; r < 4; r++) {
            due.answers("output of record " + r, x.log(8 * r), outputs[r]);
            due.answers("time of record " + r, x.log(8 * r + 6), times[r]);
        }
        due.answers("and no more", x.log(32), NONE);
    }

    private void letGoTwelve() {
        due.sentence("as long as there is one, the edge with the lowest number is let go");
        FileBuilder up = Scene.row(12, RESTAT);
        Scene.buildAll(up, 1 << 12);
        up.write(0, 1000);
        due.answers("to run", up.begin(1 << 12, 4, 1), 12);
        due.answers("let go behind the first", up.finish(up.start(), true), 11);
        FileBuilder down = rowFromItsEnd(RESTAT);
        Scene.buildAll(down, 1);
        down.write(12, 1);
        due.answers("to run", down.begin(1, 4, 1), 12);
        due.answers("let go before the last", down.finish(down.start(), true), 11);
        for (int e = 0; e < 11; e++) {
            due.answers("about " + e, down.about(e), 5);
        }
        due.answers("about the last", down.about(11), 3);
        due.answers("over well", down.state(), 2);
    }

    private void letGoFreesWhatWaits() {
        due.sentence("BLOCKED: made by an edge that is to run: one let go is not");
        FileBuilder x = Scene.row(2, RESTAT);
        x.edge(5, 0, 0);
        x.link(2, Scene.ORDER_ONLY, 2);
        x.link(2, Scene.OUTPUT, 3);
        Scene.buildAll(x, 8);
        x.write(0, 1000);
        x.command(2, 6);
        due.answers("to run", x.begin(8, 4, 1), 3);
        due.answers("the first", x.start(), 0);
        due.answers("no other", x.start(), NONE);
        due.answers("lets the second go", x.finish(0, true), 1);
        due.answers("the third is free", x.start(), 2);
        x.finish(2, true);
        due.answers("over well", x.state(), 2);
    }

    private void letGoAfterTheLastFailure() {
        due.sentence("state: 3 over otherwise: a failure counts though all others were let go");
        FileBuilder x = Scene.row(2, RESTAT);
        Scene.edge(x, 5, 0, 0, 0, 5);
        Scene.buildAll(x, 4 | 1 << 5);
        x.write(0, 1000);
        due.answers("to run", x.begin(4 | 1 << 5, 4, 1), 3);
        x.start();
        x.start();
        x.finish(2, false);
        due.answers("none may begin, one is let go", x.finish(0, true), 1);
        due.answers("over otherwise", x.state(), 3);
        due.answers("about the one let go", x.about(1), 5);
        due.answers("about the one that failed", x.about(2), 4);
    }

    private void notLetGoByAnotherContent() {
        due.sentence("is not OUT OF DATE any more: one whose need was written still is");
        FileBuilder x = Scene.row(3, RESTAT);
        Scene.buildAll(x, 8);
        x.write(0, 1001);
        due.answers("to run", x.begin(8, 1, 1), 3);
        due.answers("none is let go", x.finish(x.start(), true), 0);
        due.answers("nor then", x.finish(x.start(), true), 0);
        due.answers("nor then", x.finish(x.start(), true), 0);
        due.answers("all ran", x.about(2), 3);
        due.answers("over well", x.state(), 2);
    }

    private void failedWritesNothing() {
        due.sentence("One that fails writes nothing");
        FileBuilder x = Scene.row(1, 0);
        Scene.buildAll(x, 2);
        x.write(0, 5);
        x.begin(2, 1, 1);
        x.start();
        String before = Scene.sight(x).replace("edge 100/2", "").replace("state 1", "");
        due.answers("finish", x.finish(0, false), 0);
        String after = Scene.sight(x).replace("edge 100/4", "").replace("state 3", "");
        due.answers("all besides", after, before);
    }

    private void overAtOnce() {
        due.sentence("The build is over when none runs and none can begin: also at once");
        FileBuilder x = Scene.row(1, 0);
        Scene.buildAll(x, 2);
        due.answers("nothing to run", x.begin(2, 1, 1), 0);
        due.answers("over well", x.state(), 2);
        x.write(0, 1);
        due.answers("and nothing is under way", x.file(0, 1), 3);
        x.begin(2, 1, 1);
        due.answers("one to run is under way before it begins", x.state(), 1);
    }

    private void overWithLetGoAlone() {
        due.sentence("state: 2 over, and all that was to run ended well or was let go");
        FileBuilder x = Scene.row(3, RESTAT);
        Scene.buildAll(x, 8);
        x.write(0, 1000);
        x.begin(8, 1, 1);
        due.answers("under way", x.state(), 1);
        x.finish(x.start(), true);
        due.answers("one ended, two let go", x.state(), 2);
        due.answers("start", x.start(), NONE);
    }

    private void stateAfterRefusedBegin() {
        due.sentence("begin throws, changing nothing: the build before it stays");
        FileBuilder x = Scene.row(2, 0);
        x.begin(4, 1, 1);
        x.finish(x.start(), false);
        due.refuses("missing", NoSuchElementException.class, () -> x.begin(1 << 9, 1, 1));
        due.answers("state", x.state(), 3);
        due.answers("about what failed", x.about(0), 4);
        due.answers("about what was to run", x.about(1), 1);
    }

    private void anotherBuild() {
        due.sentence("about: of edge e in the build: another build has its own");
        FileBuilder x = Scene.fan(3, 0);
        x.begin(3 << 12, 1, 4);
        x.finish(x.start(), true);
        x.finish(x.start(), false);
        due.answers("ended well", x.about(0), 3);
        due.answers("failed", x.about(1), 4);
        due.answers("not reached", x.about(2), 0);
        due.answers("another", x.begin(1 << 14, 1, 1), 1);
        due.answers("not reached now", x.about(0), 0);
        due.answers("failed no more", x.about(1), 0);
        due.answers("to run", x.about(2), 1);
        x.finish(x.start(), true);
        due.answers("over well", x.state(), 2);
    }
}
