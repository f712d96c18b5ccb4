import java.util.NoSuchElementException;

/** Promises 1 to 8 and 15: what is laid out before a build. */
public final class LayoutTest {
    private static final Class<IllegalArgumentException> ARGUMENT = IllegalArgumentException.class;
    private static final Class<IllegalStateException> STATE = IllegalStateException.class;

    private final Due due = new Due("LayoutTest");

    public static void main(String[] args) {
        LayoutTest test = new LayoutTest();
        test.newObject();
        test.edge();
        test.link();
        test.linkInPlaceOfAnother();
        test.reads();
        test.command();
        test.pool();
        test.write();
        test.remove();
        test.nothingIsLaidOutInABuild();
        test.due.end();
    }

    private void newObject() {
        FileBuilder x = new FileBuilder();
        due.answers("state of a new object", x.state(), 0);
        due.answers("log(0) of a new object", x.log(0), FileBuilder.NONE);
        due.answers("start of a new object", x.start(), FileBuilder.NONE);
        for (int f = 0; f < 24; f++) {
            due.answers("content of " + f, x.file(f, 0), 0);
            due.answers("time of " + f, x.file(f, 1), 0);
            due.answers("record's time of " + f, x.file(f, 2), FileBuilder.NONE);
            due.answers("record's command of " + f, x.file(f, 3), FileBuilder.NONE);
        }
        due.refuses("about(0)", ARGUMENT, () -> x.about(0));
        due.refuses("commandOf(0)", ARGUMENT, () -> x.commandOf(0));
        due.refuses("finish(0)", NoSuchElementException.class, () -> x.finish(0, true));
        for (int p = 1; p <= 2; p++) {
            FileBuilder fan = Scene.fan(2, p);
            fan.begin(3 << 12, 4, 1);
            due.answers("first of pool " + p, fan.start(), 0);
            due.answers("second of pool " + p + " of depth 1", fan.start(), FileBuilder.NONE);
        }
    }

    private void edge() {
        FileBuilder x = new FileBuilder();
        int[][] wrong = {{-1, 0, 0}, {65536, 0, 0}, {0, -1, 0}, {0, 16, 0}, {0, 3, 0}, {0, 5, 0},
            {0, 9, 0}, {0, 15, 0}, {0, 0, -1}, {0, 0, 3}, {Integer.MIN_VALUE, 0, 0},
            {0, Integer.MAX_VALUE, 0}};
        for (int[] w : wrong) {
            due.refuses("edge " + w[0] + " " + w[1] + " " + w[2], ARGUMENT,
                    () -> x.edge(w[0], w[1], w[2]));
        }
        int[][] right = {{0, 0, 0}, {65535, 1, 2}, {1, 2, 1}, {2, 4, 0}, {3, 6, 0}, {4, 8, 0},
            {5, 10, 0}, {6, 12, 0}, {7, 14, 2}};
        for (int e = 0; e < 12; e++) {
            int[] r = right[e % right.length];
            due.answers("edge number", x.edge(r[0], r[1], r[2]), e);
            due.answers("commandOf(" + e + ")", x.commandOf(e), r[0]);
            due.answers("about(" + e + ")", x.about(e), 0);
        }
        due.refuses("a thirteenth edge", STATE, () -> x.edge(0, 0, 0));
        due.refuses("a wrong thirteenth edge", ARGUMENT, () -> x.edge(0, 3, 0));
        due.refuses("commandOf(-1)", ARGUMENT, () -> x.commandOf(-1));
        due.refuses("commandOf(12)", ARGUMENT, () -> x.commandOf(12));
    }

    private void link() {
        FileBuilder x = new FileBuilder();
        x.edge(1, 0, 0);
        x.edge(2, 1, 0);
        int[][] wrong = {{2, 0, 0}, {-1, 0, 0}, {12, 0, 0}, {0, -1, 0}, {0, 4, 0}, {0, 0, -1},
            {0, 0, 24}, {0, 1, 24}};
        for (int[] w : wrong) {
            due.refuses("link " + w[0] + " " + w[1] + " " + w[2], ARGUMENT,
                    () -> x.link(w[0], w[1], w[2]));
        }
        x.link(0, Scene.OUTPUT, 5);
        due.refuses("an output of the same edge", STATE, () -> x.link(0, 0, 5));
        due.refuses("an output of another edge", STATE, () -> x.link(1, 0, 5));
        x.reads(0, 6, true);
        due.refuses("a file that the edge reads", STATE, () -> x.link(0, 0, 6));
        due.refuses("a file that another reads", STATE, () -> x.link(1, 0, 6));
        x.link(1, Scene.INPUT, 6);
        x.edge(3, 0, 0);
        x.reads(2, 6, true);
        due.refuses("a file that two others read", STATE, () -> x.link(1, 0, 6));
        x.reads(2, 6, false);
        x.reads(0, 6, false);
        x.link(0, Scene.OUTPUT, 6);
        x.write(7, 1);
        due.refuses("a file that is there for a phony", STATE, () -> x.link(1, 0, 7));
        x.link(0, Scene.OUTPUT, 7);
        x.link(1, Scene.OUTPUT, 8);
        x.link(1, Scene.INPUT, 7);
        due.answers("three outputs", x.begin(1 << 8, 1, 1), 1);
        due.answers("start", x.start(), 0);
        x.finish(0, true);
        for (int f = 5; f < 8; f++) {
            due.answers("output " + f, x.file(f, 0), Scene.mix(1 + 2, f));
        }
    }

    private void linkInPlaceOfAnother() {
        for (int before = 1; before < 4; before++) {
            for (int after = 1; after < 4; after++) {
                FileBuilder x = new FileBuilder();
                Scene.edge(x, 9, 0, 0, 1, 2);
                x.link(0, before, 0);
                x.link(0, after, 0);
                x.write(0, 5);
                x.write(1, 6);
                Scene.buildAll(x, 1 << 2);
                int h = after == Scene.ORDER_ONLY ? 9 : Scene.mix(Scene.mix(9, 0), 5);
                h = Scene.mix(Scene.mix(h, 1), 6);
                due.answers("linked " + before + " then " + after, x.file(2, 0), Scene.mix(h, 2));
            }
        }
        for (int before = 1; before < 4; before++) {
            FileBuilder x = new FileBuilder();
            x.edge(9, 0, 0);
            x.link(0, before, 0);
            x.link(0, Scene.OUTPUT, 0);
            due.answers("an output in place of kind " + before, x.begin(1, 1, 1), 1);
        }
        FileBuilder y = new FileBuilder();
        y.edge(9, 0, 0);
        y.link(0, Scene.OUTPUT, 0);
        y.link(0, Scene.INPUT, 0);
        due.refuses("an input besides the output", UnsupportedOperationException.class,
                () -> y.begin(1, 1, 1));
    }

    private void reads() {
        FileBuilder x = new FileBuilder();
        x.edge(65534, 0, 0);
        x.edge(2, 1, 0);
        x.link(0, Scene.OUTPUT, 3);
        x.link(1, Scene.OUTPUT, 4);
        due.refuses("reads(2, ..)", ARGUMENT, () -> x.reads(2, 0, true));
        due.refuses("reads(-1, ..)", ARGUMENT, () -> x.reads(-1, 0, true));
        due.refuses("reads(0, 24)", ARGUMENT, () -> x.reads(0, 24, true));
        due.refuses("reads(0, -1)", ARGUMENT, () -> x.reads(0, -1, true));
        due.refuses("a phony reads", ARGUMENT, () -> x.reads(1, 0, true));
        due.refuses("a phony reads no more", ARGUMENT, () -> x.reads(1, 0, false));
        due.refuses("a phony reads what is made", ARGUMENT, () -> x.reads(1, 3, true));
        due.refuses("reads what the edge makes", STATE, () -> x.reads(0, 3, true));
        due.refuses("reads what a phony makes", STATE, () -> x.reads(0, 4, true));
        due.refuses("reads no more what it never read", STATE, () -> x.reads(0, 0, false));
        due.answers("the command is as it was", x.commandOf(0), 65534);
        x.reads(0, 0, true);
        due.answers("the command after reads", x.commandOf(0), 65535);
        due.refuses("reads again", STATE, () -> x.reads(0, 0, true));
        x.reads(0, 0, false);
        due.answers("the command after 65535", x.commandOf(0), 0);
        x.reads(0, 1, true);
        x.link(0, Scene.INPUT, 1);
        x.write(1, 77);
        Scene.buildAll(x, 1 << 3);
        due.answers("a file needed and read counts once", x.file(3, 0),
                Scene.mix(Scene.mix(Scene.mix(1, 1), 77), 3));
    }

    private void command() {
        FileBuilder x = Scene.row(1, 0);
        x.edge(3, 1, 0);
        due.refuses("command(2, 0)", ARGUMENT, () -> x.command(2, 0));
        due.refuses("command(-1, 0)", ARGUMENT, () -> x.command(-1, 0));
        due.refuses("command(0, -1)", ARGUMENT, () -> x.command(0, -1));
        due.refuses("command(0, 65536)", ARGUMENT, () -> x.command(0, 65536));
        x.command(0, 65535);
        x.command(1, 0);
        due.answers("commandOf(0)", x.commandOf(0), 65535);
        due.answers("commandOf(1)", x.commandOf(1), 0);
        Scene.buildAll(x, 2);
        due.answers("the command in the log", x.file(1, 3), 65535);
        x.command(0, 65534);
        due.answers("another command is to run", x.begin(2, 1, 1), 1);
    }

    private void pool() {
        FileBuilder x = Scene.fan(5, 2);
        due.refuses("pool(0, 1)", ARGUMENT, () -> x.pool(0, 1));
        due.refuses("pool(3, 1)", ARGUMENT, () -> x.pool(3, 1));
        due.refuses("pool(1, 0)", ARGUMENT, () -> x.pool(1, 0));
        due.refuses("pool(1, 5)", ARGUMENT, () -> x.pool(1, 5));
        x.pool(1, 4);
        x.pool(2, 3);
        x.begin(31 << 12, 4, 1);
        for (int e = 0; e < 3; e++) {
            due.answers("start in a pool of depth 3", x.start(), e);
        }
        due.answers("a fourth in a pool of depth 3", x.start(), FileBuilder.NONE);
        FileBuilder y = Scene.fan(2, 1);
        y.pool(1, 2);
        y.pool(1, 1);
        y.begin(3 << 12, 4, 1);
        due.answers("start in a pool made flat again", y.start(), 0);
        due.answers("a second in it", y.start(), FileBuilder.NONE);
    }

    private void write() {
        FileBuilder x = new FileBuilder();
        x.edge(1, 1, 0);
        x.link(0, Scene.OUTPUT, 4);
        x.edge(1, 0, 0);
        x.link(1, Scene.OUTPUT, 5);
        due.refuses("write(-1, 0)", ARGUMENT, () -> x.write(-1, 0));
        due.refuses("write(24, 0)", ARGUMENT, () -> x.write(24, 0));
        due.refuses("write to a phony's file", ARGUMENT, () -> x.write(4, 0));
        x.write(0, 7);
        x.write(23, 0);
        x.write(0, Integer.MIN_VALUE);
        x.write(5, -1);
        due.answers("content of 0", x.file(0, 0), Integer.MIN_VALUE);
        due.answers("time of 0", x.file(0, 1), 3);
        due.answers("content of 23", x.file(23, 0), 0);
        due.answers("time of 23", x.file(23, 1), 2);
        due.answers("content of an edge's output", x.file(5, 0), -1);
        due.answers("time of an edge's output", x.file(5, 1), 4);
    }

    private void remove() {
        FileBuilder x = new FileBuilder();
        x.write(3, 9);
        due.refuses("remove(-1)", ARGUMENT, () -> x.remove(-1));
        due.refuses("remove(24)", ARGUMENT, () -> x.remove(24));
        due.refuses("remove(0)", NoSuchElementException.class, () -> x.remove(0));
        x.remove(3);
        due.answers("content after remove", x.file(3, 0), 0);
        due.answers("time after remove", x.file(3, 1), 0);
        due.refuses("remove(3) again", NoSuchElementException.class, () -> x.remove(3));
        x.write(3, 9);
        due.answers("the clock goes on", x.file(3, 1), 2);
    }

    private void nothingIsLaidOutInABuild() {
        FileBuilder x = Scene.row(2, 0);
        x.begin(4, 1, 1);
        String before = Scene.sight(x);
        due.refuses("edge in a build", STATE, () -> x.edge(0, 0, 0));
        due.refuses("link in a build", STATE, () -> x.link(0, 1, 9));
        due.refuses("reads in a build", STATE, () -> x.reads(0, 9, true));
        due.refuses("command in a build", STATE, () -> x.command(0, 9));
        due.refuses("pool in a build", STATE, () -> x.pool(1, 2));
        due.refuses("write in a build", STATE, () -> x.write(0, 9));
        due.refuses("remove in a build", STATE, () -> x.remove(0));
        due.refuses("begin in a build", STATE, () -> x.begin(1, 1, 1));
        due.refuses("cut in a build", STATE, () -> x.cut(0));
        due.refuses("a wrong edge in a build", ARGUMENT, () -> x.edge(-1, 0, 0));
        due.refuses("a wrong link in a build", ARGUMENT, () -> x.link(0, 4, 9));
        due.refuses("a wrong reads in a build", ARGUMENT, () -> x.reads(0, 24, true));
        due.refuses("a wrong command in a build", ARGUMENT, () -> x.command(2, 9));
        due.refuses("a wrong pool in a build", ARGUMENT, () -> x.pool(1, 5));
        due.refuses("a wrong write in a build", ARGUMENT, () -> x.write(24, 9));
        due.refuses("remove of no file in a build", ARGUMENT, () -> x.remove(24));
        due.refuses("remove of what is not there in a build", NoSuchElementException.class,
                () -> x.remove(9));
        due.refuses("a wrong begin in a build", ARGUMENT, () -> x.begin(0, 1, 1));
        due.refuses("a wrong cut in a build", ARGUMENT, () -> x.cut(-1));
        if (!before.equals(Scene.sight(x))) {
            due.fault("a refused call changed something: " + before + " / " + Scene.sight(x));
        }
    }
}
