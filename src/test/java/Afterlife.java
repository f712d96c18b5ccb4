import java.util.TreeSet;

/**
 * Tells all that an object shows and does from now on, so that two of them can be compared: what
 * cannot be seen at once (links, reads, depths, jobs) is seen by building. Keeps an object with a
 * short log below its 512 calls.
 */
final class Afterlife {
    private static final int NONE = FileBuilder.NONE;
    private static final int LAST_TARGET = 18;

    private final FileBuilder x;
    private final StringBuilder text = new StringBuilder();
    private final TreeSet<Integer> running = new TreeSet<>();
    private boolean endsWell;

    private Afterlife(FileBuilder x, boolean firstEndsWell) {
        this.x = x;
        endsWell = firstEndsWell;
    }

    static String of(FileBuilder x, boolean firstEndsWell) {
        Afterlife life = new Afterlife(x, firstEndsWell);
        life.text.append(Scene.sight(x));
        life.findRunning();
        life.runOn();
        life.writeAll();
        life.beginAll();
        life.runOn();
        life.tellFiles();
        life.makeEdges();
        return life.text.toString();
    }

    private void findRunning() {
        for (int e = 0; Scene.isEdge(x, e); e++) {
            if (x.about(e) == 2) {
                running.add(e);
            }
        }
    }

    private void runOn() {
        while (x.state() == 1) {
            for (int e = x.start(); e != NONE; e = x.start()) {
                text.append(" starts ").append(e);
                running.add(e);
            }
            if (running.isEmpty()) {
                text.append(" under way, but none runs and none can begin");
                return;
            }
            int e = running.pollFirst();
            text.append(" ends ").append(e).append(endsWell ? " well " : " ill ");
            text.append(x.finish(e, endsWell));
            endsWell = true;
        }
        text.append(" state ").append(x.state());
    }

    private void writeAll() {
        for (int f = 0; f < 24; f++) {
            try {
                x.write(f, 7000 + f);
            } catch (IllegalArgumentException byPhony) {
                text.append(" not written ").append(f);
            }
        }
    }

    private void beginAll() {
        try {
            text.append(" begins ").append(x.begin((1 << LAST_TARGET + 1) - 1, 4, 4));
        } catch (UnsupportedOperationException cycle) {
            text.append(" cycle");
        }
    }

    private void tellFiles() {
        for (int f = 0; f < 24; f++) {
            text.append(" file ").append(x.file(f, 0)).append('/').append(x.file(f, 2));
        }
    }

    private void makeEdges() {
        for (int n = 0; n < 13; n++) {
            try {
                text.append(" edge ").append(x.edge(1, 0, 0));
            } catch (IllegalStateException twelve) {
                text.append(" no edge");
                return;
            }
        }
    }
}
