/** Makes the small graphs that several tests begin with, and looks at whole objects. */
final class Scene {
    static final int OUTPUT = 0;
    static final int INPUT = 1;
    static final int IMPLICIT = 2;
    static final int ORDER_ONLY = 3;

    private Scene() {
    }

    /** A new edge that makes one file out of one input. */
    static int edge(FileBuilder x, int command, int flags, int pool, int input, int output) {
        int e = x.edge(command, flags, pool);
        x.link(e, INPUT, input);
        x.link(e, OUTPUT, output);
        return e;
    }

    /** Edge i makes file i + 1 out of file i, which makes a row; file 0 is there. */
    static FileBuilder row(int edges, int flags) {
        FileBuilder x = new FileBuilder();
        for (int i = 0; i < edges; i++) {
            edge(x, 100 + i, flags, 0, i, i + 1);
        }
        x.write(0, 1000);
        return x;
    }

    /** Edge i makes file 12 + i out of file i, which is there; no edge waits for another. */
    static FileBuilder fan(int edges, int pool) {
        FileBuilder x = new FileBuilder();
        for (int i = 0; i < edges; i++) {
            edge(x, 100 + i, 0, pool, i, 12 + i);
            x.write(i, 1000 + i);
        }
        return x;
    }

    /** Begins a build and lets every edge end well; answers how many edges ran. */
    static int buildAll(FileBuilder x, int targets) {
        x.begin(targets, 1, 1);
        int ran = 0;
        for (int e = x.start(); e != FileBuilder.NONE; e = x.start()) {
            x.finish(e, true);
            ran++;
        }
        return ran;
    }

    /** How many edges a build has to run; one that has some is over at once, by a failure. */
    static int toRun(FileBuilder x, int targets) {
        int n = x.begin(targets, 1, 1);
        if (n > 0) {
            x.finish(x.start(), false);
        }
        return n;
    }

    static int mix(int h, int x) {
        int g = (h ^ x) * 73244475;
        return g ^ (g >>> 15);
    }

    /** All that can be seen of an object, to show that a refused call changed nothing. */
    static String sight(FileBuilder x) {
        StringBuilder text = new StringBuilder();
        text.append("state ").append(x.state());
        for (int e = 0; isEdge(x, e); e++) {
            text.append(" edge ").append(x.commandOf(e)).append('/').append(x.about(e));
        }
        for (int f = 0; f < 24; f++) {
            for (int what = 0; what < 4; what++) {
                text.append(what == 0 ? " file " : "/").append(x.file(f, what));
            }
        }
        for (int k = 0; x.log(k) != FileBuilder.NONE; k++) {
            text.append(k % 8 == 0 ? " record " : "/").append(x.log(k));
        }
        return text.toString();
    }

    static boolean isEdge(FileBuilder x, int e) {
        try {
            x.about(e);
            return true;
        } catch (IllegalArgumentException none) {
            return false;
        }
    }
}
