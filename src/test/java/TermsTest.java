/** The boundary cases of the terms: files, the clock, reads, NEWEST, OUT OF DATE and DIRTY. */
public final class TermsTest {
    private static final int NONE = FileBuilder.NONE;
    private static final int PHONY = 1;
    private static final int RESTAT = 2;
    private static final int GENERATOR = 4;
    private static final int READER = 8;

    private final Due due = new Due("TermsTest");

    public static void main(String[] args) {
        TermsTest test = new TermsTest();
        test.clock();
        test.notThere();
        test.phonyMakesNothing();
        test.phonyMadeNeedIsMixed();
        test.outputOfOneEdge();
        test.recordedWhenItEndsWell();
        test.recordedForAReaderAlone();
        test.newestOfNothing();
        test.newestHasNoOrderOnly();
        test.newestOfWhatIsNeededAndRead();
        test.newestEqualIsNotAbove();
        test.newestIsOfWhatStandsAtTheEnd();
        test.dirtyNeedAlone();
        test.outputNotThereAlone();
        test.readNotThereAlone();
        test.readerWithoutRecordAlone();
        test.logRecordAlone();
        test.newestAboveAlone();
        test.restatRecordNotBelow();
        test.restatEachOutput();
        test.recordSavesNoOther();
        test.failedIsDirty();
        test.runningIsDirty();
        test.phonyIsDirtyByItsNeeds();
        test.due.end();
    }

    private void clock() {
        due.sentence("The CLOCK is 0 at first; whatever writes a file makes it 1 more");
        FileBuilder x = Scene.row(2, RESTAT);
        due.answers("the first time", x.file(0, 1), 1);
        due.refuses("a refused write", IllegalArgumentException.class, () -> x.write(24, 1));
        due.answers("times of two outputs", Scene.buildAll(x, 4), 2);
        due.answers("the first output", x.file(1, 1), 2);
        due.answers("the second output", x.file(2, 1), 3);
        x.write(0, 1000);
        due.answers("the clock after a write", x.file(0, 1), 4);
        Scene.buildAll(x, 4);
        x.write(0, 1000);
        due.answers("an output that stayed did not move it", x.file(0, 1), 5);
        x.remove(0);
        x.write(0, 1000);
        due.answers("nor did a removal", x.file(0, 1), 6);
        x.begin(4, 1, 1);
        x.finish(x.start(), false);
        x.write(0, 1000);
        due.answers("nor did a failure", x.file(0, 1), 7);
        x.cut(0);
        x.write(0, 1000);
        due.answers("nor a cut", x.file(0, 1), 8);
    }

    private void notThere() {
        due.sentence("or are not there (time 0, content 0)");
        FileBuilder x = Scene.row(1, 0);
        for (int f = 1; f < 24; f++) {
            due.answers("content of " + f, x.file(f, 0), 0);
            due.answers("time of " + f, x.file(f, 1), 0);
        }
        x.begin(2, 1, 1);
        x.finish(x.start(), false);
        due.answers("content of what failed", x.file(1, 0), 0);
        due.answers("time of what failed", x.file(1, 1), 0);
        due.sentence("remove: file f is there no more");
        Scene.buildAll(x, 2);
        x.remove(1);
        due.answers("content of an output removed", x.file(1, 0), 0);
        due.answers("time of an output removed", x.file(1, 1), 0);
        due.answers("its record stays", x.file(1, 2), 1);
        x.remove(0);
        due.refuses("a need removed is missing", java.util.NoSuchElementException.class,
                () -> x.begin(2, 1, 1));
    }

    private void phonyMakesNothing() {
        due.sentence("what a phony makes is never there");
        FileBuilder x = Scene.row(1, 0);
        Scene.edge(x, 5, PHONY, 1, 1, 2);
        due.answers("a phony is not to run", Scene.buildAll(x, 4), 1);
        due.answers("state", x.state(), 2);
        due.answers("about the phony", x.about(1), 0);
        for (int what = 0; what < 4; what++) {
            due.answers("file(2, " + what + ")", x.file(2, what), what < 2 ? 0 : NONE);
        }
        due.answers("one record alone", x.log(8), NONE);
        due.answers("and yet it is not missing", x.begin(4, 1, 1), 0);
    }

    private void phonyMadeNeedIsMixed() {
        due.sentence("for each file f of its needs and reads: one that is not there has content 0");
        FileBuilder x = new FileBuilder();
        x.edge(5, PHONY, 0);
        x.link(0, Scene.OUTPUT, 3);
        Scene.edge(x, 9, 0, 0, 3, 4);
        x.reads(1, 7, true);
        Scene.buildAll(x, 16);
        int h = Scene.mix(Scene.mix(10, 3), 0);
        due.answers("content", x.file(4, 0), Scene.mix(Scene.mix(Scene.mix(h, 7), 0), 4));
        due.answers("NEWEST", x.file(4, 2), 0);
    }

    private void outputOfOneEdge() {
        due.sentence("A file is the output of one edge at most, and a need of any number");
        FileBuilder x = new FileBuilder();
        x.edge(0, 0, 0);
        x.link(0, Scene.OUTPUT, 0);
        for (int e = 1; e < 12; e++) {
            Scene.edge(x, e, 0, 0, 0, e);
            due.refuses("output of a second edge", IllegalStateException.class,
                    () -> x.link(1, Scene.OUTPUT, 0));
        }
        due.answers("all twelve", x.begin(0xFFE, 4, 1), 12);
        due.answers("the maker", x.start(), 0);
        due.answers("blocks all others", x.start(), NONE);
        x.finish(0, true);
        for (int e = 1; e < 5; e++) {
            due.answers("then they begin", x.start(), e);
        }
    }

    private void recordedWhenItEndsWell() {
        due.sentence("What it read is RECORDED for a READER when it ends well");
        FileBuilder x = Scene.row(1, READER | GENERATOR);
        x.reads(0, 5, true);
        x.write(5, 1);
        x.begin(2, 1, 1);
        x.finish(x.start(), false);
        x.write(1, 1);
        due.answers("a failure records nothing", Scene.toRun(x, 2), 1);
        Scene.buildAll(x, 2);
        x.reads(0, 5, false);
        x.reads(0, 6, true);
        due.answers("the former record stands", Scene.toRun(x, 2), 0);
        x.write(5, 2);
        due.answers("and counts, though it is read no more", x.begin(2, 1, 1), 1);
        x.finish(x.start(), false);
        due.answers("a failure keeps it", Scene.toRun(x, 2), 1);
        x.write(6, 1);
        Scene.buildAll(x, 2);
        x.write(5, 3);
        due.answers("the new record stands in its place", Scene.toRun(x, 2), 0);
        x.write(6, 3);
        due.answers("with what is read now", Scene.toRun(x, 2), 1);
    }

    private void recordedForAReaderAlone() {
        due.sentence("RECORDED for a READER: no other edge has a recorded read");
        int[] others = {0, RESTAT, GENERATOR, RESTAT | GENERATOR};
        for (int flags : others) {
            FileBuilder x = Scene.row(1, flags);
            x.reads(0, 5, true);
            x.write(5, 1);
            Scene.buildAll(x, 2);
            due.answers("NEWEST with flags " + flags, x.file(1, 2), 1);
            x.write(5, 2);
            due.answers("a newer read with flags " + flags, Scene.toRun(x, 2), 0);
            x.remove(5);
            due.answers("a read not there with flags " + flags, Scene.toRun(x, 2), 0);
        }
    }

    private void newestOfNothing() {
        due.sentence("NEWEST: 0 if there is none");
        FileBuilder x = new FileBuilder();
        x.write(20, 1);
        x.edge(1, 0, 0);
        x.link(0, Scene.OUTPUT, 0);
        Scene.edge(x, 2, PHONY, 0, 21, 1);
        x.link(1, Scene.ORDER_ONLY, 21);
        x.link(1, Scene.ORDER_ONLY, 20);
        Scene.edge(x, 3, 0, 0, 1, 2);
        x.write(21, 1);
        Scene.buildAll(x, 5);
        due.answers("without needs", x.file(0, 2), 0);
        due.answers("with a phony that has order-only ones alone", x.file(2, 2), 0);
        for (int k = 3; k < 7; k++) {
            due.answers("byte " + k + " of a time of 0", x.log(k), 0);
        }
        due.answers("nothing is newer", Scene.toRun(x, 5), 0);
    }

    private void newestHasNoOrderOnly() {
        due.sentence("NEWEST: the greatest time of its needs and its recorded reads");
        FileBuilder x = new FileBuilder();
        x.edge(1, READER, 0);
        x.link(0, Scene.OUTPUT, 9);
        x.link(0, Scene.INPUT, 1);
        x.link(0, Scene.IMPLICIT, 2);
        x.reads(0, 3, true);
        x.link(0, Scene.ORDER_ONLY, 4);
        for (int newest = 1; newest < 5; newest++) {
            for (int f = 1; f < 5; f++) {
                x.write(f, 1);
            }
            x.write(newest, 1);
            Scene.buildAll(x, 1 << 9);
            int want = newest == 4 ? x.file(3, 1) : x.file(newest, 1);
            due.answers("NEWEST when " + newest + " is the newest", x.file(9, 2), want);
        }
    }

    private void newestOfWhatIsNeededAndRead() {
        due.sentence("NEWEST: its needs and its recorded reads: also a file that is both");
        FileBuilder x = Scene.row(1, READER);
        x.reads(0, 0, true);
        x.write(9, 1);
        Scene.buildAll(x, 2);
        due.answers("NEWEST", x.file(1, 2), 1);
        x.write(0, 1);
        due.answers("newer", Scene.toRun(x, 2), 1);
    }

    private void newestEqualIsNotAbove() {
        due.sentence("its NEWEST is above the time of one of its outputs: the same is not above");
        FileBuilder x = Scene.row(1, READER | GENERATOR);
        x.reads(0, 2, true);
        x.write(2, 1);
        Scene.buildAll(x, 2);
        x.reads(0, 2, false);
        x.link(0, Scene.OUTPUT, 2);
        due.answers("a recorded read that is an output now", Scene.toRun(x, 2), 0);
        x.write(0, 1);
        x.write(1, 1);
        due.answers("a need above its time", Scene.toRun(x, 2), 1);
    }

    private void newestIsOfWhatStandsAtTheEnd() {
        due.sentence("Then what it reads is recorded; then there is a log record with NEWEST");
        FileBuilder x = Scene.row(1, READER);
        x.write(5, 1);
        x.reads(0, 5, true);
        Scene.buildAll(x, 2);
        due.answers("what it reads now counts", x.file(1, 2), 2);
        x.reads(0, 5, false);
        Scene.buildAll(x, 2);
        due.answers("what it read before does not", x.file(1, 2), 1);
    }

    private void dirtyNeedAlone() {
        due.sentence("OUT OF DATE if a need of it is made by a DIRTY edge");
        for (int kind = 1; kind < 4; kind++) {
            FileBuilder x = Scene.row(1, 0);
            x.edge(5, GENERATOR, 0);
            x.link(1, kind, 1);
            x.link(1, Scene.OUTPUT, 2);
            Scene.buildAll(x, 4);
            x.command(0, 9);
            due.answers("by kind " + kind, Scene.toRun(x, 4), kind == Scene.ORDER_ONLY ? 1 : 2);
        }
    }

    private void outputNotThereAlone() {
        due.sentence("OUT OF DATE if one of its outputs is not there");
        FileBuilder x = new FileBuilder();
        x.edge(1, GENERATOR, 0);
        for (int f = 0; f < 24; f++) {
            x.link(0, Scene.OUTPUT, f);
        }
        Scene.buildAll(x, 1);
        due.answers("24 outputs that are there", Scene.toRun(x, 1), 0);
        for (int f = 0; f < 24; f++) {
            x.remove(f);
            due.answers("output " + f + " is not there", Scene.toRun(x, 1 << (f + 1) % 24), 1);
            x.write(f, 0);
            due.answers("output " + f + " is there by hand", Scene.toRun(x, 1), 0);
        }
    }

    private void readNotThereAlone() {
        due.sentence("OUT OF DATE if a recorded read is not there");
        FileBuilder x = Scene.row(1, READER);
        x.reads(0, 23, true);
        Scene.buildAll(x, 2);
        due.answers("it was not there when it was read", Scene.toRun(x, 2), 1);
        x.write(23, 1);
        due.answers("it is there, and newer", Scene.toRun(x, 2), 1);
        x.write(1, 1);
        due.answers("it is there, and older", Scene.toRun(x, 2), 0);
        x.remove(23);
        due.answers("it is not there again", Scene.toRun(x, 2), 1);
    }

    private void readerWithoutRecordAlone() {
        due.sentence("OUT OF DATE if it is a READER without a record");
        FileBuilder x = Scene.row(1, READER | GENERATOR);
        x.write(1, 1);
        due.answers("never run", Scene.toRun(x, 2), 1);
        Scene.buildAll(x, 2);
        due.answers("run, and nothing read", Scene.toRun(x, 2), 0);
        x.cut(400);
        due.answers("after a cut", Scene.toRun(x, 2), 1);
        FileBuilder y = Scene.row(1, GENERATOR);
        y.write(1, 1);
        due.answers("no reader", Scene.toRun(y, 2), 0);
    }

    private void logRecordAlone() {
        due.sentence("it is no GENERATOR, and an output has no log record, or another command");
        FileBuilder x = Scene.row(1, 0);
        x.write(1, 1);
        due.answers("no record", Scene.toRun(x, 2), 1);
        Scene.buildAll(x, 2);
        due.answers("the record fits", Scene.toRun(x, 2), 0);
        x.command(0, 99);
        due.answers("a command 1 less", Scene.toRun(x, 2), 1);
        x.command(0, 100 + 256);
        due.answers("a command with another higher byte", Scene.toRun(x, 2), 1);
        x.command(0, 100);
        due.answers("the command as it was", Scene.toRun(x, 2), 0);
        x.write(2, 1);
        x.link(0, Scene.OUTPUT, 2);
        due.answers("one output of two has none", Scene.toRun(x, 2), 1);
        FileBuilder y = Scene.row(1, 0);
        y.command(0, 0);
        y.write(1, 1);
        due.answers("no record is not a record of command 0", Scene.toRun(y, 2), 1);
    }

    private void newestAboveAlone() {
        due.sentence("its NEWEST is above the time of one of its outputs");
        for (int old = 1; old <= 2; old++) {
            FileBuilder x = Scene.row(1, 0);
            x.link(0, Scene.OUTPUT, 2);
            Scene.buildAll(x, 2);
            x.write(3 - old, 1);
            due.answers("both above it", Scene.toRun(x, 2), 0);
            x.write(0, 1);
            x.write(3 - old, 1);
            due.answers("output " + old + " below it", Scene.toRun(x, 2), 1);
            x.write(old, 1);
            due.answers("both above it again", Scene.toRun(x, 2), 0);
        }
    }

    private void restatRecordNotBelow() {
        due.sentence("(for RESTAT: unless that output's log record has a time not below this NEWEST)");
        FileBuilder x = Scene.row(1, RESTAT);
        Scene.buildAll(x, 2);
        x.write(0, 1000);
        due.answers("a record below it", Scene.toRun(x, 2), 1);
        Scene.buildAll(x, 2);
        due.answers("the output's time stays", x.file(1, 1), 2);
        due.answers("the record's time is NEWEST", x.file(1, 2), 3);
        due.answers("a record that is the same", Scene.toRun(x, 2), 0);
        x.write(0, 1000);
        due.answers("a record 1 below it", Scene.toRun(x, 2), 1);
        x.spoil(14, 5);
        x.spoil(15, x.log(15) + 2);
        x.cut(16);
        due.answers("a record 1 above it", Scene.toRun(x, 2), 0);
        x.cut(0);
        due.answers("no record", Scene.toRun(x, 2), 1);
        FileBuilder y = new FileBuilder();
        Scene.edge(y, 1, RESTAT | GENERATOR, 0, 0, 1);
        y.write(1, 1);
        y.write(0, 1);
        due.answers("a generator's output without a record", Scene.toRun(y, 2), 1);
    }

    private void restatEachOutput() {
        due.sentence("unless that output's log record: each output has its own");
        FileBuilder x = Scene.row(1, RESTAT | GENERATOR);
        x.write(2, 1);
        Scene.buildAll(x, 2);
        x.write(0, 1000);
        Scene.buildAll(x, 2);
        due.answers("the first output is saved", Scene.toRun(x, 2), 0);
        x.link(0, Scene.OUTPUT, 2);
        due.answers("the second has no record", Scene.toRun(x, 2), 1);
        x.write(2, 1);
        due.answers("and needs none when it is newer", Scene.toRun(x, 2), 0);
    }

    private void recordSavesNoOther() {
        due.sentence("for RESTAT: a record saves no edge of another sort");
        int[] others = {0, GENERATOR, READER};
        for (int flags : others) {
            FileBuilder x = Scene.row(1, flags);
            Scene.buildAll(x, 2);
            x.write(0, 1000);
            x.spoil(6, 100);
            x.spoil(7, (x.log(7) + 99) % 251);
            due.answers("the record is right", x.cut(8), 8);
            due.answers("its time", x.file(1, 2), 100);
            due.answers("to run with flags " + flags, Scene.toRun(x, 2), 1);
        }
    }

    /** Edge 2 needs what 0 and 1 make, 3 what 1 makes; both stay as they were when they run again. */
    private static FileBuilder twoStay() {
        FileBuilder x = new FileBuilder();
        Scene.edge(x, 1, RESTAT, 0, 0, 2);
        Scene.edge(x, 2, RESTAT, 0, 1, 3);
        Scene.edge(x, 3, 0, 0, 2, 4);
        x.link(2, Scene.INPUT, 3);
        Scene.edge(x, 4, 0, 0, 3, 5);
        x.write(0, 1);
        x.write(1, 1);
        Scene.buildAll(x, 48);
        x.write(0, 1);
        x.write(1, 1);
        x.begin(48, 2, 2);
        x.start();
        x.start();
        return x;
    }

    private void failedIsDirty() {
        due.sentence("DIRTY are the edges that are to run, run or failed in the build");
        FileBuilder x = twoStay();
        due.answers("a failure lets none go", x.finish(0, false), 0);
        due.answers("one edge has no need of what failed", x.finish(1, true), 1);
        due.answers("it is let go", x.about(3), 5);
        due.answers("the other stays to run", x.about(2), 1);
        due.answers("over otherwise", x.state(), 3);
        due.answers("a new build forgets what failed", x.begin(48, 1, 1), 2);
    }

    private void runningIsDirty() {
        due.sentence("DIRTY are the edges that are to run, run or failed in the build");
        FileBuilder x = twoStay();
        due.answers("one edge has no need of what runs", x.finish(1, true), 1);
        due.answers("the other stays to run", x.about(2), 1);
        due.answers("until that ends too", x.finish(0, true), 1);
        due.answers("over well", x.state(), 2);
    }

    private void phonyIsDirtyByItsNeeds() {
        due.sentence("DIRTY are the phonies with a need that a dirty edge makes");
        for (int inner = 1; inner < 4; inner++) {
            for (int outer = 1; outer < 4; outer++) {
                FileBuilder x = Scene.row(1, 0);
                x.edge(1, PHONY, 0);
                x.link(1, inner, 1);
                x.link(1, Scene.OUTPUT, 2);
                x.edge(2, GENERATOR, 0);
                x.link(2, outer, 2);
                x.link(2, Scene.OUTPUT, 3);
                Scene.buildAll(x, 8);
                x.command(0, 9);
                boolean dirty = inner != Scene.ORDER_ONLY && outer != Scene.ORDER_ONLY;
                due.answers("kinds " + inner + " and " + outer, Scene.toRun(x, 8), dirty ? 2 : 1);
            }
        }
    }
}
