/** The edges of all numbers that the document bounds: the last ones that are as said, and MIX. */
public final class NumbersTest {
    private static final int NONE = FileBuilder.NONE;
    private static final int RESTAT = 2;

    private final Due due = new Due("NumbersTest");

    public static void main(String[] args) {
        NumbersTest test = new NumbersTest();
        test.none();
        test.filesAsWrittenOnes();
        test.filesAsLinks();
        test.filesAsReads();
        test.filesAsTargets();
        test.edges();
        test.everyEdgeIsOne();
        test.commands();
        test.commandBecomesOneMore();
        test.flags();
        test.pools();
        test.depths();
        test.jobs();
        test.fails();
        test.mixWraps();
        test.mixOfNeeds();
        test.contents();
        test.lastCall();
        test.due.end();
    }

    private void none() {
        due.sentence("public static final int NONE = -1");
        due.answers("NONE", NONE, -1);
    }

    private void filesAsWrittenOnes() {
        due.sentence("FILES 0 .. 23 have a CONTENT and a TIME");
        FileBuilder x = new FileBuilder();
        for (int f = 0; f < 24; f++) {
            x.write(f, 100 + f);
        }
        for (int f = 0; f < 24; f++) {
            due.answers("content of " + f, x.file(f, 0), 100 + f);
            due.answers("time of " + f, x.file(f, 1), 1 + f);
        }
        for (int f = 0; f < 24; f += 23) {
            x.remove(f);
            due.answers("time of " + f + " removed", x.file(f, 1), 0);
        }
        due.answers("the neighbour of 0", x.file(1, 1), 2);
        due.answers("the neighbour of 23", x.file(22, 1), 23);
    }

    private void filesAsLinks() {
        due.sentence("link: file f becomes an output, input, implicit or order-only one");
        for (int kind = 1; kind < 4; kind++) {
            for (int f = 0; f < 24; f++) {
                FileBuilder x = new FileBuilder();
                x.edge(5, 0, 0);
                x.link(0, kind, f);
                x.link(0, Scene.OUTPUT, 23 - f);
                x.write(f, 77);
                Scene.buildAll(x, 1 << 23 - f);
                int h = kind == Scene.ORDER_ONLY ? 5 : Scene.mix(Scene.mix(5, f), 77);
                due.answers("output " + (23 - f) + " by kind " + kind, x.file(23 - f, 0),
                        Scene.mix(h, 23 - f));
                due.answers("its record's output", x.log(0), 23 - f);
            }
        }
    }

    private void filesAsReads() {
        due.sentence("reads: the command of e reads file f");
        for (int f = 0; f < 24; f += 23) {
            FileBuilder x = new FileBuilder();
            x.edge(5, 8, 0);
            x.link(0, Scene.OUTPUT, 12);
            x.reads(0, f, true);
            x.write(f, 77);
            Scene.buildAll(x, 1 << 12);
            due.answers("content with read " + f, x.file(12, 0),
                    Scene.mix(Scene.mix(Scene.mix(6, f), 77), 12));
            due.answers("NEWEST with read " + f, x.file(12, 2), 1);
            x.remove(f);
            due.answers("recorded read " + f + " is not there", x.begin(1 << 12, 1, 1), 1);
        }
    }

    private void filesAsTargets() {
        due.sentence("begin: the targets are files, as bits");
        for (int f = 0; f < 24; f++) {
            FileBuilder x = new FileBuilder();
            x.edge(5, 0, 0);
            x.link(0, Scene.OUTPUT, f);
            due.answers("target " + f, x.begin(1 << f, 1, 1), 1);
        }
        FileBuilder x = new FileBuilder();
        for (int f = 0; f < 24; f++) {
            x.write(f, 1);
        }
        x.edge(5, 0, 0);
        x.link(0, Scene.OUTPUT, 23);
        due.answers("all 24 targets", x.begin((1 << 24) - 1, 1, 1), 1);
    }

    private void edges() {
        due.sentence("EDGES 0 .. 11; a new edge without links");
        FileBuilder x = new FileBuilder();
        for (int e = 0; e < 12; e++) {
            due.answers("edge " + e, x.edge(e, 0, 0), e);
            due.answers("its command", x.commandOf(e), e);
            due.answers("about it", x.about(e), 0);
            x.link(e, Scene.OUTPUT, 12 + e);
        }
        due.answers("none waits for another", x.begin(0xFFF << 12, 4, 1), 12);
        for (int e = 0; e < 4; e++) {
            due.answers("start", x.start(), e);
        }
    }

    private void everyEdgeIsOne() {
        due.sentence("EDGES 0 .. 11: the last one is an edge for every call");
        FileBuilder x = Scene.fan(12, 0);
        x.command(11, 900);
        x.reads(11, 0, true);
        due.answers("command of 11", x.commandOf(11), 901);
        due.answers("begin", x.begin(1 << 23, 1, 1), 1);
        due.answers("start", x.start(), 11);
        due.answers("about 11", x.about(11), 2);
        due.answers("finish of 11", x.finish(11, true), 0);
        due.answers("about 11", x.about(11), 3);
        int h = Scene.mix(Scene.mix(901, 0), 1000);
        due.answers("content", x.file(23, 0), Scene.mix(Scene.mix(Scene.mix(h, 11), 1011), 23));
    }

    private void commands() {
        due.sentence("COMMAND (0 .. 65535)");
        int[] commands = {0, 1, 255, 256, 65534, 65535};
        FileBuilder x = new FileBuilder();
        for (int e = 0; e < commands.length; e++) {
            x.edge(commands[e], 0, 0);
            x.link(e, Scene.OUTPUT, e);
            due.answers("command of a new edge", x.commandOf(e), commands[e]);
        }
        Scene.buildAll(x, 63);
        for (int e = 0; e < commands.length; e++) {
            due.answers("content by command", x.file(e, 0), Scene.mix(commands[e], e));
            due.answers("the command's record", x.file(e, 3), commands[e]);
            due.answers("its higher byte", x.log(8 * e + 1), commands[e] / 256);
            due.answers("its lower byte", x.log(8 * e + 2), commands[e] % 256);
        }
        due.sentence("command: the command of e becomes c");
        for (int c : commands) {
            x.command(0, c);
            due.answers("command given", x.commandOf(0), c);
            due.answers("out of date by it", Scene.toRun(x, 1), c == 0 ? 0 : 1);
        }
    }

    private void commandBecomesOneMore() {
        due.sentence("reads: its command becomes 1 more (after 65535 it is 0)");
        int[][] rows = {{0, 1}, {254, 255}, {255, 256}, {65534, 65535}, {65535, 0}};
        for (int[] row : rows) {
            FileBuilder x = new FileBuilder();
            x.edge(row[0], 0, 0);
            x.link(0, Scene.OUTPUT, 5);
            x.reads(0, 3, true);
            due.answers("after " + row[0] + " by reading", x.commandOf(0), row[1]);
            x.command(0, row[0]);
            x.reads(0, 3, false);
            due.answers("after " + row[0] + " by reading no more", x.commandOf(0), row[1]);
            Scene.buildAll(x, 32);
            due.answers("the record has it", x.file(5, 3), row[1]);
            due.answers("and fits it", x.begin(32, 1, 1), 0);
        }
    }

    private void flags() {
        due.sentence("FLAGS (1 PHONY, 2 RESTAT, 4 GENERATOR, 8 READER; a PHONY has none besides)");
        int[] right = {0, 1, 2, 4, 6, 8, 10, 12, 14};
        FileBuilder x = new FileBuilder();
        for (int n = 0; n < right.length; n++) {
            due.answers("edge with flags " + right[n], x.edge(0, right[n], 0), n);
        }
        int of = 0;
        for (int flags = -40; flags < 40; flags++) {
            boolean made = true;
            try {
                new FileBuilder().edge(0, flags, 0);
            } catch (IllegalArgumentException no) {
                made = false;
            }
            of += made ? 1 : 0;
        }
        due.answers("how many flags are as said", of, right.length);
    }

    private void pools() {
        due.sentence("a POOL (0: none; 1 or 2)");
        int[] runAtOnce = {4, 1, 1};
        for (int pool = 0; pool < 3; pool++) {
            FileBuilder x = Scene.fan(5, pool);
            x.begin(31 << 12, 4, 1);
            due.answers("run at once in pool " + pool, startAll(x), runAtOnce[pool]);
        }
        FileBuilder x = Scene.fan(2, 1);
        Scene.edge(x, 9, 0, 2, 2, 14);
        Scene.edge(x, 9, 0, 2, 3, 15);
        Scene.edge(x, 9, 0, 0, 4, 16);
        for (int f = 2; f < 5; f++) {
            x.write(f, 1);
        }
        x.begin(31 << 12, 4, 1);
        due.answers("one of each pool and one of none", startAll(x), 3);
    }

    private void depths() {
        due.sentence("pool: the depth of pool p (1 or 2) becomes d (1 .. 4)");
        for (int p = 1; p <= 2; p++) {
            for (int d = 1; d <= 4; d++) {
                FileBuilder x = Scene.fan(6, p);
                x.pool(3 - p, 4);
                x.pool(p, d);
                x.begin(63 << 12, 4, 1);
                due.answers("run at once in depth " + d + " of pool " + p, startAll(x), d);
            }
        }
    }

    private void jobs() {
        due.sentence("begin: jobs is 1 .. 4: fewer edges run than there are JOBS");
        for (int jobs = 1; jobs <= 4; jobs++) {
            FileBuilder x = Scene.fan(12, 0);
            x.begin(0xFFF << 12, jobs, 1);
            due.answers("run at once with jobs " + jobs, startAll(x), jobs);
            due.answers("the state then", x.state(), 1);
            x.finish(0, true);
            due.answers("one more after one ended", startAll(x), 1);
        }
    }

    private void fails() {
        due.sentence("begin: fail is 1 .. 4: fewer have failed than the build lets FAIL");
        for (int fail = 1; fail <= 4; fail++) {
            FileBuilder x = Scene.fan(12, 0);
            x.begin(0xFFF << 12, 1, fail);
            for (int n = 0; n < fail; n++) {
                due.answers("state with " + n + " of " + fail + " failed", x.state(), 1);
                x.finish(x.start(), false);
            }
            due.answers("state with all failed", x.state(), 3);
            due.answers("start then", x.start(), NONE);
        }
    }

    /** Starts all that can; answers how many. */
    private static int startAll(FileBuilder x) {
        int n = 0;
        while (x.start() != NONE) {
            n++;
        }
        return n;
    }

    /** The numbers were reckoned without bounds and cut to 32 bits; 30 and 59 are the first to wrap. */
    private void mixWraps() {
        due.sentence("MIX (h, x) is g xor (g >>> 15), with g = (h xor x) * 73244475 (wrapping)");
        int[][] rows = {{0, 0, 0}, {1, 0, 73242496}, {29, 0, 2124149913}, {30, 0, -2097566437},
            {58, 0, -46667470}, {59, 0, 26456510}, {65535, 0, -1696836225}, {65535, 23, 913604240},
            {17, 23, 439455489}};
        for (int[] row : rows) {
            FileBuilder x = new FileBuilder();
            x.edge(row[0], 0, 0);
            x.link(0, Scene.OUTPUT, row[1]);
            Scene.buildAll(x, 1 << row[1]);
            due.answers("MIX (" + row[0] + ", " + row[1] + ")", x.file(row[1], 0), row[2]);
        }
    }

    private void mixOfNeeds() {
        due.sentence("h becomes MIX (MIX (h, f), content of f); output f gets MIX (h, f)");
        int[][] rows = {{0, 0, 0, 1, 73242496}, {7, 0, -1, 1, -1168337676},
            {7, 0, Integer.MIN_VALUE, 1, 1672977930}, {7, 0, Integer.MAX_VALUE, 1, -644263042},
            {65535, 22, -1, 23, -504739399}};
        for (int[] row : rows) {
            FileBuilder x = new FileBuilder();
            Scene.edge(x, row[0], 0, 0, row[1], row[3]);
            x.write(row[1], row[2]);
            Scene.buildAll(x, 1 << row[3]);
            due.answers("command " + row[0] + ", need " + row[1] + " of content " + row[2],
                    x.file(row[3], 0), row[4]);
        }
        due.sentence("h is 17 for a GENERATOR");
        for (int command = 0; command <= 65535; command += 65535) {
            FileBuilder x = new FileBuilder();
            x.edge(command, 4, 0);
            x.link(0, Scene.OUTPUT, 23);
            Scene.buildAll(x, 1 << 23);
            due.answers("a generator of command " + command, x.file(23, 0), 439455489);
            due.answers("its record has the command", x.file(23, 3), command);
        }
    }

    private void contents() {
        due.sentence("a CONTENT (an int)");
        int[] contents = {0, 1, -1, Integer.MIN_VALUE, Integer.MAX_VALUE};
        for (int content : contents) {
            FileBuilder x = new FileBuilder();
            x.write(0, content);
            due.answers("content", x.file(0, 0), content);
            due.answers("it is there", x.begin(1, 1, 1), 0);
            x.remove(0);
            due.answers("content when it is not there", x.file(0, 0), 0);
        }
        FileBuilder x = new FileBuilder();
        x.edge(1, RESTAT, 0);
        x.link(0, Scene.OUTPUT, 1);
        x.write(1, 0);
        Scene.buildAll(x, 2);
        due.answers("content 0 of a file that is there stays", x.file(1, 1), 1);
    }

    private void lastCall() {
        due.sentence("An object is used for at most 512 calls after it has been made");
        FileBuilder x = new FileBuilder();
        for (int n = 1; n < 512; n++) {
            x.write(n % 24, n);
        }
        due.answers("the 512th call", x.file(511 % 24, 1), 511);
        FileBuilder y = Scene.row(1, 0);
        for (int n = 0; n < 504; n++) {
            y.write(0, n);
        }
        y.begin(2, 1, 1);
        y.start();
        y.finish(0, true);
        due.answers("the 512th call", y.file(1, 2), 505);
    }
}
