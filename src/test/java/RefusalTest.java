import java.util.NoSuchElementException;
import java.util.function.Consumer;
import java.util.function.Supplier;

/** Every exception that a promise names, for every cause it names, each with nothing changed. */
public final class RefusalTest {
    private static final Class<IllegalArgumentException> ARGUMENT = IllegalArgumentException.class;
    private static final Class<IllegalStateException> STATE = IllegalStateException.class;
    private static final Class<NoSuchElementException> ELEMENT = NoSuchElementException.class;
    private static final Class<UnsupportedOperationException> UNSUPPORTED =
            UnsupportedOperationException.class;

    private static final int PHONY = 1;
    private static final int RESTAT = 2;
    private static final int GENERATOR = 4;
    private static final int READER = 8;

    private static final int EDGES = 9;
    private static final int PHONY_EDGE = 2;
    private static final int[] NO_FILES = {-1, 24, 31, 32, Integer.MIN_VALUE, Integer.MAX_VALUE};
    private static final int[] NO_EDGES = {-1, EDGES, 11, 12, 32, Integer.MIN_VALUE,
        Integer.MAX_VALUE};
    private static final int[] NO_COMMANDS = {-1, 65536, Integer.MIN_VALUE, Integer.MAX_VALUE};

    private final Due due = new Due("RefusalTest");

    public static void main(String[] args) {
        RefusalTest test = new RefusalTest();
        test.edge();
        test.link();
        test.linkOfAnOutput();
        test.reads();
        test.command();
        test.pool();
        test.write();
        test.remove();
        test.beginWithWrongNumbers();
        test.beginOfWhatCannotBeBuilt();
        test.underWay();
        test.finish();
        test.finishWithoutABuild();
        test.lookingAtWhatIsNot();
        test.cut();
        test.answersThatRefuse();
        test.due.end();
    }

    /** Edges of every sort, built once; the last build failed. */
    private static FileBuilder idle() {
        FileBuilder x = new FileBuilder();
        Scene.edge(x, 10, 0, 1, 0, 12);
        Scene.edge(x, 20, RESTAT, 1, 12, 13);
        x.link(1, Scene.IMPLICIT, 1);
        x.link(1, Scene.OUTPUT, 14);
        Scene.edge(x, 30, PHONY, 0, 13, 15);
        Scene.edge(x, 40, READER, 2, 15, 16);
        x.link(3, Scene.ORDER_ONLY, 2);
        x.reads(3, 3, true);
        Scene.edge(x, 50, GENERATOR, 2, 4, 17);
        Scene.edge(x, 65535, 0, 0, 5, 18);
        Scene.edge(x, 60, 0, 0, 20, 19);
        Scene.edge(x, 70, 0, 0, 19, 20);
        Scene.edge(x, 80, GENERATOR, 2, 4, 11);
        for (int f = 0; f < 5; f++) {
            x.write(f, 100 + f);
        }
        Scene.buildAll(x, 1 << 11 | 1 << 16 | 1 << 17);
        x.write(0, 200);
        x.begin(1 << 16, 1, 1);
        x.start();
        x.finish(0, false);
        return x;
    }

    /** Edge 0 runs, 1 and 3 wait for it, 4 may begin, and 8 then waits for room in its pool. */
    private static FileBuilder busy() {
        FileBuilder x = idle();
        x.remove(11);
        x.remove(17);
        x.begin(1 << 11 | 1 << 16 | 1 << 17, 3, 1);
        x.start();
        return x;
    }

    private static FileBuilder twelve() {
        FileBuilder x = idle();
        for (int e = EDGES; e < 12; e++) {
            x.edge(e, 0, 0);
        }
        return x;
    }

    private void refuses(String call, Class<? extends RuntimeException> want,
            Supplier<FileBuilder> made, Consumer<FileBuilder> run) {
        changesNothing(call, made, x -> due.refuses(call, want, () -> run.accept(x)));
    }

    /** A wrong argument is refused as such in a build, too. */
    private void refuses(String call, Class<? extends RuntimeException> want,
            Consumer<FileBuilder> run) {
        refuses(call, want, RefusalTest::idle, run);
        if (want == ARGUMENT) {
            refuses(call + " in a build", want, RefusalTest::busy, run);
        }
    }

    private void changesNothing(String call, Supplier<FileBuilder> made,
            Consumer<FileBuilder> run) {
        for (int life = 0; life < Afterlife.LIVES; life++) {
            FileBuilder asked = made.get();
            run.accept(asked);
            due.answers("all after " + call, Afterlife.of(asked, life),
                    Afterlife.of(made.get(), life));
        }
    }

    private void edge() {
        due.sentence("edge: IllegalArgumentException when command, flags or pool is not as said");
        for (int c : NO_COMMANDS) {
            refuses("edge(" + c + ", 0, 0)", ARGUMENT, x -> x.edge(c, 0, 0));
        }
        int[] noFlags = {-1, 3, 5, 7, 9, 11, 13, 15, 16, 17, 32, Integer.MIN_VALUE,
            Integer.MIN_VALUE + 1, Integer.MAX_VALUE};
        for (int flags : noFlags) {
            refuses("edge(0, " + flags + ", 0)", ARGUMENT, x -> x.edge(0, flags, 0));
        }
        int[] noPools = {-1, 3, 4, Integer.MIN_VALUE, Integer.MAX_VALUE};
        for (int pool : noPools) {
            refuses("edge(0, 0, " + pool + ")", ARGUMENT, x -> x.edge(0, 0, pool));
        }
        due.sentence("edge: IllegalStateException when there are twelve");
        refuses("a thirteenth edge", STATE, RefusalTest::twelve, x -> x.edge(0, 0, 0));
        refuses("a wrong thirteenth edge", ARGUMENT, RefusalTest::twelve, x -> x.edge(-1, 0, 0));
    }

    private void link() {
        due.sentence("link: IllegalArgumentException when kind, e or f is not as said");
        for (int kind = 0; kind < 4; kind++) {
            int k = kind;
            for (int e : NO_EDGES) {
                refuses("link(" + e + ", " + k + ", 7)", ARGUMENT, x -> x.link(e, k, 7));
            }
            for (int f : NO_FILES) {
                refuses("link(0, " + k + ", " + f + ")", ARGUMENT, x -> x.link(0, k, f));
            }
        }
        int[] noKinds = {-1, 4, 5, Integer.MIN_VALUE, Integer.MAX_VALUE};
        for (int kind : noKinds) {
            refuses("link(0, " + kind + ", 7)", ARGUMENT, x -> x.link(0, kind, 7));
        }
    }

    private void linkOfAnOutput() {
        due.sentence("link: IllegalStateException when for kind 0, f is the output of an edge");
        refuses("an output of the edge itself", STATE, x -> x.link(0, 0, 12));
        refuses("an output of another", STATE, x -> x.link(0, 0, 14));
        refuses("an output of a phony", STATE, x -> x.link(0, 0, 15));
        refuses("a phony's own output", STATE, x -> x.link(PHONY_EDGE, 0, 15));
        due.sentence("link: IllegalStateException when for kind 0, f is read by one");
        refuses("read by the edge itself", STATE, x -> x.link(3, 0, 3));
        refuses("read by another", STATE, x -> x.link(0, 0, 3));
        due.sentence("link: IllegalStateException when for kind 0, f is there while e is a phony");
        refuses("there, to a phony", STATE, x -> x.link(PHONY_EDGE, 0, 4));
        refuses("there and its input, to a phony", STATE, () -> {
            FileBuilder x = idle();
            x.link(PHONY_EDGE, Scene.INPUT, 4);
            return x;
        }, x -> x.link(PHONY_EDGE, 0, 4));
    }

    private void reads() {
        due.sentence("reads: IllegalArgumentException when e or f is not as said, or e is a phony");
        for (int n = 0; n < 2; n++) {
            boolean is = n == 0;
            for (int e : NO_EDGES) {
                refuses("reads(" + e + ", 7, " + is + ")", ARGUMENT, x -> x.reads(e, 7, is));
            }
            for (int f : NO_FILES) {
                refuses("reads(0, " + f + ", " + is + ")", ARGUMENT, x -> x.reads(0, f, is));
            }
            refuses("a phony reads " + is, ARGUMENT, x -> x.reads(PHONY_EDGE, 7, is));
        }
        due.sentence("reads: IllegalStateException when an edge makes f, or it is so already");
        for (int n = 0; n < 2; n++) {
            boolean is = n == 0;
            refuses("reads what it makes: " + is, STATE, x -> x.reads(0, 12, is));
            refuses("reads what another makes: " + is, STATE, x -> x.reads(0, 16, is));
            refuses("reads what a phony makes: " + is, STATE, x -> x.reads(0, 15, is));
        }
        refuses("it reads it already", STATE, x -> x.reads(3, 3, true));
        refuses("it reads it not", STATE, x -> x.reads(3, 4, false));
        refuses("another reads it, it does not", STATE, x -> x.reads(0, 3, false));
    }

    private void command() {
        due.sentence("command: IllegalArgumentException when it is not as said");
        for (int e : NO_EDGES) {
            refuses("command(" + e + ", 1)", ARGUMENT, x -> x.command(e, 1));
        }
        for (int c : NO_COMMANDS) {
            refuses("command(0, " + c + ")", ARGUMENT, x -> x.command(0, c));
        }
    }

    private void pool() {
        due.sentence("pool: p is 1 or 2, d is 1 .. 4; throws likewise");
        int[] noPools = {-1, 0, 3, Integer.MIN_VALUE, Integer.MAX_VALUE};
        for (int p : noPools) {
            refuses("pool(" + p + ", 2)", ARGUMENT, x -> x.pool(p, 2));
        }
        int[] noDepths = {-1, 0, 5, Integer.MIN_VALUE, Integer.MAX_VALUE};
        for (int d : noDepths) {
            refuses("pool(1, " + d + ")", ARGUMENT, x -> x.pool(1, d));
            refuses("pool(2, " + d + ")", ARGUMENT, x -> x.pool(2, d));
        }
    }

    private void write() {
        due.sentence("write: IllegalArgumentException when it is none, or a phony makes it");
        for (int f : NO_FILES) {
            refuses("write(" + f + ", 1)", ARGUMENT, x -> x.write(f, 1));
        }
        refuses("write of what a phony makes", ARGUMENT, x -> x.write(15, 1));
    }

    private void remove() {
        due.sentence("remove: IllegalArgumentException when it is none");
        for (int f : NO_FILES) {
            refuses("remove(" + f + ")", ARGUMENT, x -> x.remove(f));
        }
        due.sentence("remove: NoSuchElementException when it is not there");
        refuses("remove of what was never written", ELEMENT, x -> x.remove(5));
        refuses("remove of what a phony makes", ELEMENT, x -> x.remove(15));
        refuses("remove of what was never built", ELEMENT, x -> x.remove(18));
        refuses("remove of what was removed", ELEMENT, () -> {
            FileBuilder x = idle();
            x.remove(4);
            return x;
        }, x -> x.remove(4));
    }

    private void beginWithWrongNumbers() {
        due.sentence("begin: IllegalArgumentException when targets is 0 or has other bits");
        refuses("begin(0, 1, 1)", ARGUMENT, x -> x.begin(0, 1, 1));
        for (int bit = 24; bit < 32; bit++) {
            int targets = 1 << bit;
            refuses("bit " + bit + " alone", ARGUMENT, x -> x.begin(targets, 1, 1));
            refuses("bit " + bit + " besides", ARGUMENT, x -> x.begin(targets | 1 << 16, 1, 1));
        }
        refuses("all bits", ARGUMENT, x -> x.begin(-1, 1, 1));
        due.sentence("begin: IllegalArgumentException when jobs is not 1 .. 4, or fail not 1 .. 4");
        int[] wrong = {-1, 0, 5, Integer.MIN_VALUE, Integer.MAX_VALUE};
        for (int n : wrong) {
            refuses("jobs " + n, ARGUMENT, x -> x.begin(1 << 16, n, 1));
            refuses("fail " + n, ARGUMENT, x -> x.begin(1 << 16, 1, n));
        }
        refuses("wrong jobs with a cycle", ARGUMENT, x -> x.begin(1 << 19, 0, 1));
        refuses("wrong fail with a missing file", ARGUMENT, x -> x.begin(1 << 18, 1, 0));
    }

    private void beginOfWhatCannotBeBuilt() {
        due.sentence("begin: UnsupportedOperationException when there is a cycle");
        refuses("a cycle", UNSUPPORTED, x -> x.begin(1 << 19, 4, 4));
        refuses("a cycle besides", UNSUPPORTED, x -> x.begin(1 << 16 | 1 << 20, 4, 4));
        refuses("a cycle and a missing file", UNSUPPORTED, x -> x.begin(1 << 18 | 1 << 20, 4, 4));
        due.sentence("begin: NoSuchElementException when something is missing");
        refuses("a missing input", ELEMENT, x -> x.begin(1 << 18, 4, 4));
        refuses("a missing target", ELEMENT, x -> x.begin(1 << 23, 4, 4));
        refuses("a missing target besides", ELEMENT, x -> x.begin(1 << 16 | 1 << 23, 4, 4));
        refuses("a missing order-only one", ELEMENT, () -> {
            FileBuilder x = idle();
            x.remove(2);
            return x;
        }, x -> x.begin(1 << 16, 4, 4));
    }

    private void underWay() {
        due.sentence("IllegalStateException when a build is under way");
        busyRefuses("edge", x -> x.edge(0, 0, 0));
        for (int kind = 0; kind < 4; kind++) {
            int k = kind;
            busyRefuses("link of kind " + k, x -> x.link(0, k, 7));
        }
        busyRefuses("reads", x -> x.reads(0, 7, true));
        busyRefuses("reads no more", x -> x.reads(3, 3, false));
        busyRefuses("command", x -> x.command(0, 9));
        busyRefuses("the same command", x -> x.command(0, 10));
        busyRefuses("pool 1", x -> x.pool(1, 4));
        busyRefuses("pool 2", x -> x.pool(2, 4));
        busyRefuses("write", x -> x.write(0, 9));
        busyRefuses("write of an output", x -> x.write(12, 9));
        busyRefuses("remove", x -> x.remove(0));
        busyRefuses("begin", x -> x.begin(1 << 17, 1, 4));
        busyRefuses("begin of a cycle", x -> x.begin(1 << 19, 1, 4));
        busyRefuses("begin of what is missing", x -> x.begin(1 << 18, 1, 4));
        busyRefuses("cut(0)", x -> x.cut(0));
        busyRefuses("cut beyond the end", x -> x.cut(400));
        refuses("cut when a READER has its record", STATE, () -> {
            FileBuilder x = Scene.row(1, READER);
            Scene.buildAll(x, 2);
            Scene.edge(x, 5, 0, 0, 0, 2);
            x.begin(4, 1, 1);
            return x;
        }, x -> x.cut(400));
        due.sentence("IllegalStateException also when no edge runs yet, but one may begin");
        refuses("write before the first start", STATE, () -> {
            FileBuilder x = idle();
            x.begin(1 << 16, 1, 1);
            return x;
        }, x -> x.write(0, 9));
    }

    private void busyRefuses(String call, Consumer<FileBuilder> run) {
        refuses(call, STATE, RefusalTest::busy, run);
    }

    private void finish() {
        due.sentence("finish: NoSuchElementException when it does not run");
        for (int n = 0; n < 2; n++) {
            boolean well = n == 0;
            for (int e : NO_EDGES) {
                refuses("finish(" + e + ", " + well + ")", ELEMENT, RefusalTest::busy,
                        x -> x.finish(e, well));
            }
            refuses("finish of one to run", ELEMENT, RefusalTest::busy, x -> x.finish(1, well));
            refuses("finish of one ready", ELEMENT, RefusalTest::busy, x -> x.finish(4, well));
            refuses("finish of a phony", ELEMENT, RefusalTest::busy, x -> x.finish(2, well));
            refuses("finish of one not reached", ELEMENT, RefusalTest::busy,
                    x -> x.finish(5, well));
            refuses("finish of one that failed", ELEMENT, x -> x.finish(0, well));
            refuses("finish of one to run when it is over", ELEMENT, x -> x.finish(1, well));
        }
    }

    private void finishWithoutABuild() {
        for (int n = 0; n < 2; n++) {
            boolean well = n == 0;
            refuses("finish of one that ended well", ELEMENT, () -> {
                FileBuilder x = busy();
                x.finish(0, true);
                return x;
            }, x -> x.finish(0, well));
            refuses("finish of one let go", ELEMENT, () -> {
                FileBuilder x = Scene.row(2, RESTAT);
                Scene.buildAll(x, 4);
                x.write(0, 1000);
                Scene.buildAll(x, 4);
                return x;
            }, x -> x.finish(1, well));
            refuses("finish without a build", ELEMENT, () -> Scene.row(2, 0),
                    x -> x.finish(0, well));
            refuses("finish without an edge", ELEMENT, FileBuilder::new, x -> x.finish(0, well));
        }
    }

    private void lookingAtWhatIsNot() {
        due.sentence("about: IllegalArgumentException when there is none");
        for (int e : NO_EDGES) {
            refuses("about(" + e + ")", ARGUMENT, x -> x.about(e));
        }
        due.sentence("commandOf: IllegalArgumentException when there is none");
        for (int e : NO_EDGES) {
            refuses("commandOf(" + e + ")", ARGUMENT, x -> x.commandOf(e));
        }
        due.sentence("file: IllegalArgumentException when there is no such file, or another what");
        for (int f : NO_FILES) {
            for (int what = 0; what < 4; what++) {
                int w = what;
                refuses("file(" + f + ", " + w + ")", ARGUMENT, x -> x.file(f, w));
            }
        }
        int[] noWhats = {-1, 4, 5, Integer.MIN_VALUE, Integer.MAX_VALUE};
        for (int what : noWhats) {
            refuses("file(0, " + what + ")", ARGUMENT, x -> x.file(0, what));
        }
    }

    private void cut() {
        due.sentence("cut: IllegalArgumentException when n is below 0");
        refuses("cut(-1)", ARGUMENT, x -> x.cut(-1));
        refuses("cut(MIN)", ARGUMENT, x -> x.cut(Integer.MIN_VALUE));
    }

    /** Calls that refuse by their answer change nothing either. */
    private void answersThatRefuse() {
        int end = 8 * 6;
        due.answers("the last byte is one", idle().spoil(end - 1, 1), true);
        int[] noBytes = {-1, end, 400, Integer.MIN_VALUE, Integer.MAX_VALUE};
        for (int k : noBytes) {
            due.sentence("spoil: False, changing nothing, when there is no such byte");
            changesNothing("spoil(" + k + ", 1)", RefusalTest::idle,
                    x -> due.answers("spoil(" + k + ", 1)", x.spoil(k, 1), false));
            due.sentence("log: NONE when there is none");
            changesNothing("log(" + k + ")", RefusalTest::idle,
                    x -> due.answers("log(" + k + ")", x.log(k), FileBuilder.NONE));
        }
        due.sentence("start: NONE when none can");
        changesNothing("start when it is over", RefusalTest::idle,
                x -> due.answers("start when it is over", x.start(), FileBuilder.NONE));
        Supplier<FileBuilder> full = () -> {
            FileBuilder x = busy();
            x.start();
            return x;
        };
        changesNothing("start when all are blocked", full,
                x -> due.answers("start when all are blocked", x.start(), FileBuilder.NONE));
    }
}
